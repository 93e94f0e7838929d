theorem dX9_shape_0 : decode cX9_shape 0 = .ok (.iload_n 1, 1) := by decide +kernel
theorem dX9_shape_1 : decode cX9_shape 1 = .ok (.invokestatic 79, 3) := by decide +kernel
theorem dX9_shape_4 : decode cX9_shape 4 = .ok (.ifCond .eq 13, 3) := by decide +kernel
theorem dX9_shape_7 : decode cX9_shape 7 = .ok (.iload_n 2, 1) := by decide +kernel
theorem dX9_shape_8 : decode cX9_shape 8 = .ok (.iconst 0, 1) := by decide +kernel
theorem dX9_shape_9 : decode cX9_shape 9 = .ok (.ldc 83, 2) := by decide +kernel
theorem dX9_shape_11 : decode cX9_shape 11 = .ok (.invokestatic 75, 3) := by decide +kernel
theorem dX9_shape_14 : decode cX9_shape 14 = .ok (.ifCond .ne 10, 3) := by decide +kernel
theorem dX9_shape_17 : decode cX9_shape 17 = .ok (.aload_n 0, 1) := by decide +kernel
theorem dX9_shape_18 : decode cX9_shape 18 = .ok (.ldc 74, 2) := by decide +kernel
theorem dX9_shape_20 : decode cX9_shape 20 = .ok (.invokevirtual 84, 3) := by decide +kernel
theorem dX9_shape_23 : decode cX9_shape 23 = .ok (.ireturn, 1) := by decide +kernel
theorem dX9_shape_24 : decode cX9_shape 24 = .ok (.aload_n 0, 1) := by decide +kernel
theorem dX9_shape_25 : decode cX9_shape 25 = .ok (.getfield 9, 3) := by decide +kernel
theorem dX9_shape_28 : decode cX9_shape 28 = .ok (.iconst 0, 1) := by decide +kernel
theorem dX9_shape_29 : decode cX9_shape 29 = .ok (.iaload, 1) := by decide +kernel
theorem dX9_shape_30 : decode cX9_shape 30 = .ok (.bipush 9, 2) := by decide +kernel
theorem dX9_shape_32 : decode cX9_shape 32 = .ok (.if_icmp .ne 12, 3) := by decide +kernel
theorem dX9_shape_35 : decode cX9_shape 35 = .ok (.aload_n 0, 1) := by decide +kernel
theorem dX9_shape_36 : decode cX9_shape 36 = .ok (.ldc 88, 2) := by decide +kernel
theorem dX9_shape_38 : decode cX9_shape 38 = .ok (.invokevirtual 84, 3) := by decide +kernel
theorem dX9_shape_41 : decode cX9_shape 41 = .ok (.goto 9, 3) := by decide +kernel
theorem dX9_shape_44 : decode cX9_shape 44 = .ok (.aload_n 0, 1) := by decide +kernel
theorem dX9_shape_45 : decode cX9_shape 45 = .ok (.iload_n 1, 1) := by decide +kernel
theorem dX9_shape_46 : decode cX9_shape 46 = .ok (.iload_n 2, 1) := by decide +kernel
theorem dX9_shape_47 : decode cX9_shape 47 = .ok (.invokevirtual 89, 3) := by decide +kernel
theorem dX9_shape_50 : decode cX9_shape 50 = .ok (.ireturn, 1) := by decide +kernel
theorem dX9_of_0 : decode cX9_of 0 = .ok (.aload_n 0, 1) := by decide +kernel
theorem dX9_of_1 : decode cX9_of 1 = .ok (.iload_n 1, 1) := by decide +kernel
theorem dX9_of_2 : decode cX9_of 2 = .ok (.invokevirtual 93, 3) := by decide +kernel
theorem dX9_of_5 : decode cX9_of 5 = .ok (.ifCond .eq 12, 3) := by decide +kernel
theorem dX9_of_8 : decode cX9_of 8 = .ok (.iload_n 2, 1) := by decide +kernel
theorem dX9_of_9 : decode cX9_of 9 = .ok (.iconst 0, 1) := by decide +kernel
theorem dX9_of_10 : decode cX9_of 10 = .ok (.iconst 3, 1) := by decide +kernel
theorem dX9_of_11 : decode cX9_of 11 = .ok (.invokestatic 75, 3) := by decide +kernel
theorem dX9_of_14 : decode cX9_of 14 = .ok (.ifCond .ne 10, 3) := by decide +kernel
theorem dX9_of_17 : decode cX9_of 17 = .ok (.aload_n 0, 1) := by decide +kernel
theorem dX9_of_18 : decode cX9_of 18 = .ok (.ldc 74, 2) := by decide +kernel
theorem dX9_of_20 : decode cX9_of 20 = .ok (.invokevirtual 84, 3) := by decide +kernel
theorem dX9_of_23 : decode cX9_of 23 = .ok (.ireturn, 1) := by decide +kernel
theorem dX9_of_24 : decode cX9_of 24 = .ok (.iload_n 2, 1) := by decide +kernel
theorem dX9_of_25 : decode cX9_of 25 = .ok (.iconst 3, 1) := by decide +kernel
theorem dX9_of_26 : decode cX9_of 26 = .ok (.if_icmp .ne 11, 3) := by decide +kernel
theorem dX9_of_29 : decode cX9_of 29 = .ok (.aload_n 0, 1) := by decide +kernel
theorem dX9_of_30 : decode cX9_of 30 = .ok (.iload_n 1, 1) := by decide +kernel
theorem dX9_of_31 : decode cX9_of 31 = .ok (.invokevirtual 96, 3) := by decide +kernel
theorem dX9_of_34 : decode cX9_of 34 = .ok (.goto 9, 3) := by decide +kernel
theorem dX9_of_37 : decode cX9_of 37 = .ok (.aload_n 0, 1) := by decide +kernel
theorem dX9_of_38 : decode cX9_of 38 = .ok (.iload_n 1, 1) := by decide +kernel
theorem dX9_of_39 : decode cX9_of 39 = .ok (.iload_n 2, 1) := by decide +kernel
theorem dX9_of_40 : decode cX9_of 40 = .ok (.invokevirtual 99, 3) := by decide +kernel
theorem dX9_of_43 : decode cX9_of 43 = .ok (.ireturn, 1) := by decide +kernel
theorem dX9_cut_0 : decode cX9_cut 0 = .ok (.aload_n 0, 1) := by decide +kernel
theorem dX9_cut_1 : decode cX9_cut 1 = .ok (.iload_n 1, 1) := by decide +kernel
theorem dX9_cut_2 : decode cX9_cut 2 = .ok (.invokevirtual 93, 3) := by decide +kernel
theorem dX9_cut_5 : decode cX9_cut 5 = .ok (.ifCond .eq 28, 3) := by decide +kernel
theorem dX9_cut_8 : decode cX9_cut 8 = .ok (.iload_n 2, 1) := by decide +kernel
theorem dX9_cut_9 : decode cX9_cut 9 = .ok (.iconst 0, 1) := by decide +kernel
theorem dX9_cut_10 : decode cX9_cut 10 = .ok (.ldc 83, 2) := by decide +kernel
theorem dX9_cut_12 : decode cX9_cut 12 = .ok (.invokestatic 75, 3) := by decide +kernel
theorem dX9_cut_15 : decode cX9_cut 15 = .ok (.ifCond .eq 18, 3) := by decide +kernel
theorem dX9_cut_18 : decode cX9_cut 18 = .ok (.aload_n 0, 1) := by decide +kernel
theorem dX9_cut_19 : decode cX9_cut 19 = .ok (.iconst 3, 1) := by decide +kernel
theorem dX9_cut_20 : decode cX9_cut 20 = .ok (.iconst 3, 1) := by decide +kernel
theorem dX9_cut_21 : decode cX9_cut 21 = .ok (.iload_n 1, 1) := by decide +kernel
theorem dX9_cut_22 : decode cX9_cut 22 = .ok (.imul, 1) := by decide +kernel
theorem dX9_cut_23 : decode cX9_cut 23 = .ok (.iadd, 1) := by decide +kernel
theorem dX9_cut_24 : decode cX9_cut 24 = .ok (.iconst 1, 1) := by decide +kernel
theorem dX9_cut_25 : decode cX9_cut 25 = .ok (.iadd, 1) := by decide +kernel
theorem dX9_cut_26 : decode cX9_cut 26 = .ok (.iload_n 2, 1) := by decide +kernel
theorem dX9_cut_27 : decode cX9_cut 27 = .ok (.invokevirtual 102, 3) := by decide +kernel
theorem dX9_cut_30 : decode cX9_cut 30 = .ok (.goto 9, 3) := by decide +kernel
theorem dX9_cut_33 : decode cX9_cut 33 = .ok (.aload_n 0, 1) := by decide +kernel
theorem dX9_cut_34 : decode cX9_cut 34 = .ok (.ldc 74, 2) := by decide +kernel
theorem dX9_cut_36 : decode cX9_cut 36 = .ok (.invokevirtual 84, 3) := by decide +kernel
theorem dX9_cut_39 : decode cX9_cut 39 = .ok (.ireturn, 1) := by decide +kernel
theorem dX9_tear_0 : decode cX9_tear 0 = .ok (.aload_n 0, 1) := by decide +kernel
theorem dX9_tear_1 : decode cX9_tear 1 = .ok (.iload_n 1, 1) := by decide +kernel
theorem dX9_tear_2 : decode cX9_tear 2 = .ok (.invokevirtual 93, 3) := by decide +kernel
theorem dX9_tear_5 : decode cX9_tear 5 = .ok (.ifCond .ne 10, 3) := by decide +kernel
theorem dX9_tear_8 : decode cX9_tear 8 = .ok (.aload_n 0, 1) := by decide +kernel
theorem dX9_tear_9 : decode cX9_tear 9 = .ok (.ldc 74, 2) := by decide +kernel
theorem dX9_tear_11 : decode cX9_tear 11 = .ok (.invokevirtual 84, 3) := by decide +kernel
theorem dX9_tear_14 : decode cX9_tear 14 = .ok (.ireturn, 1) := by decide +kernel
theorem dX9_tear_15 : decode cX9_tear 15 = .ok (.iload_n 2, 1) := by decide +kernel
theorem dX9_tear_16 : decode cX9_tear 16 = .ok (.ifCond .eq 7, 3) := by decide +kernel
theorem dX9_tear_19 : decode cX9_tear 19 = .ok (.iconst 1, 1) := by decide +kernel
theorem dX9_tear_20 : decode cX9_tear 20 = .ok (.goto 4, 3) := by decide +kernel
theorem dX9_tear_23 : decode cX9_tear 23 = .ok (.iconst 0, 1) := by decide +kernel
theorem dX9_tear_24 : decode cX9_tear 24 = .ok (.istore_n 3, 1) := by decide +kernel
theorem dX9_tear_25 : decode cX9_tear 25 = .ok (.aload_n 0, 1) := by decide +kernel
theorem dX9_tear_26 : decode cX9_tear 26 = .ok (.iconst 3, 1) := by decide +kernel
theorem dX9_tear_27 : decode cX9_tear 27 = .ok (.iconst 3, 1) := by decide +kernel
theorem dX9_tear_28 : decode cX9_tear 28 = .ok (.iload_n 1, 1) := by decide +kernel
theorem dX9_tear_29 : decode cX9_tear 29 = .ok (.imul, 1) := by decide +kernel
theorem dX9_tear_30 : decode cX9_tear 30 = .ok (.iadd, 1) := by decide +kernel
theorem dX9_tear_31 : decode cX9_tear 31 = .ok (.iconst 2, 1) := by decide +kernel
theorem dX9_tear_32 : decode cX9_tear 32 = .ok (.iadd, 1) := by decide +kernel
theorem dX9_tear_33 : decode cX9_tear 33 = .ok (.iload_n 3, 1) := by decide +kernel
theorem dX9_tear_34 : decode cX9_tear 34 = .ok (.invokevirtual 102, 3) := by decide +kernel
theorem dX9_tear_37 : decode cX9_tear 37 = .ok (.iload_n 3, 1) := by decide +kernel
theorem dX9_tear_38 : decode cX9_tear 38 = .ok (.if_icmp .ne 7, 3) := by decide +kernel
theorem dX9_tear_41 : decode cX9_tear 41 = .ok (.iconst 0, 1) := by decide +kernel
theorem dX9_tear_42 : decode cX9_tear 42 = .ok (.goto 4, 3) := by decide +kernel
theorem dX9_tear_45 : decode cX9_tear 45 = .ok (.iconst 1, 1) := by decide +kernel
theorem dX9_tear_46 : decode cX9_tear 46 = .ok (.ireturn, 1) := by decide +kernel
theorem dX9_become_0 : decode cX9_become 0 = .ok (.aload_n 0, 1) := by decide +kernel
theorem dX9_become_1 : decode cX9_become 1 = .ok (.iload_n 1, 1) := by decide +kernel
theorem dX9_become_2 : decode cX9_become 2 = .ok (.invokevirtual 93, 3) := by decide +kernel
theorem dX9_become_5 : decode cX9_become 5 = .ok (.ifCond .eq 25, 3) := by decide +kernel
theorem dX9_become_8 : decode cX9_become 8 = .ok (.iload_n 2, 1) := by decide +kernel
theorem dX9_become_9 : decode cX9_become 9 = .ok (.invokestatic 79, 3) := by decide +kernel
theorem dX9_become_12 : decode cX9_become 12 = .ok (.ifCond .eq 18, 3) := by decide +kernel
theorem dX9_become_15 : decode cX9_become 15 = .ok (.aload_n 0, 1) := by decide +kernel
theorem dX9_become_16 : decode cX9_become 16 = .ok (.iconst 3, 1) := by decide +kernel
theorem dX9_become_17 : decode cX9_become 17 = .ok (.iconst 3, 1) := by decide +kernel
theorem dX9_become_18 : decode cX9_become 18 = .ok (.iload_n 1, 1) := by decide +kernel
theorem dX9_become_19 : decode cX9_become 19 = .ok (.imul, 1) := by decide +kernel
theorem dX9_become_20 : decode cX9_become 20 = .ok (.iadd, 1) := by decide +kernel
theorem dX9_become_21 : decode cX9_become 21 = .ok (.iconst 0, 1) := by decide +kernel
theorem dX9_become_22 : decode cX9_become 22 = .ok (.iadd, 1) := by decide +kernel
theorem dX9_become_23 : decode cX9_become 23 = .ok (.iload_n 2, 1) := by decide +kernel
theorem dX9_become_24 : decode cX9_become 24 = .ok (.invokevirtual 102, 3) := by decide +kernel
theorem dX9_become_27 : decode cX9_become 27 = .ok (.goto 9, 3) := by decide +kernel
theorem dX9_become_30 : decode cX9_become 30 = .ok (.aload_n 0, 1) := by decide +kernel
theorem dX9_become_31 : decode cX9_become 31 = .ok (.ldc 74, 2) := by decide +kernel
theorem dX9_become_33 : decode cX9_become 33 = .ok (.invokevirtual 84, 3) := by decide +kernel
theorem dX9_become_36 : decode cX9_become 36 = .ok (.ireturn, 1) := by decide +kernel
theorem dX9_as_0 : decode cX9_as 0 = .ok (.aload_n 0, 1) := by decide +kernel
theorem dX9_as_1 : decode cX9_as 1 = .ok (.iload_n 1, 1) := by decide +kernel
theorem dX9_as_2 : decode cX9_as 2 = .ok (.invokevirtual 93, 3) := by decide +kernel
theorem dX9_as_5 : decode cX9_as 5 = .ok (.ifCond .eq 10, 3) := by decide +kernel
theorem dX9_as_8 : decode cX9_as 8 = .ok (.iload_n 2, 1) := by decide +kernel
theorem dX9_as_9 : decode cX9_as 9 = .ok (.invokestatic 79, 3) := by decide +kernel
theorem dX9_as_12 : decode cX9_as 12 = .ok (.ifCond .ne 10, 3) := by decide +kernel
theorem dX9_as_15 : decode cX9_as 15 = .ok (.aload_n 0, 1) := by decide +kernel
theorem dX9_as_16 : decode cX9_as 16 = .ok (.ldc 74, 2) := by decide +kernel
theorem dX9_as_18 : decode cX9_as 18 = .ok (.invokevirtual 84, 3) := by decide +kernel
theorem dX9_as_21 : decode cX9_as 21 = .ok (.ireturn, 1) := by decide +kernel
theorem dX9_as_22 : decode cX9_as 22 = .ok (.aload_n 0, 1) := by decide +kernel
theorem dX9_as_23 : decode cX9_as 23 = .ok (.iload_n 1, 1) := by decide +kernel
theorem dX9_as_24 : decode cX9_as 24 = .ok (.iconst 0, 1) := by decide +kernel
theorem dX9_as_25 : decode cX9_as 25 = .ok (.invokevirtual 99, 3) := by decide +kernel
theorem dX9_as_28 : decode cX9_as 28 = .ok (.istore_n 3, 1) := by decide +kernel
theorem dX9_as_29 : decode cX9_as 29 = .ok (.iload_n 3, 1) := by decide +kernel
theorem dX9_as_30 : decode cX9_as 30 = .ok (.ifCond .lt 16, 3) := by decide +kernel
theorem dX9_as_33 : decode cX9_as 33 = .ok (.iload_n 3, 1) := by decide +kernel
theorem dX9_as_34 : decode cX9_as 34 = .ok (.iload_n 2, 1) := by decide +kernel
theorem dX9_as_35 : decode cX9_as 35 = .ok (.if_icmp .eq 11, 3) := by decide +kernel
theorem dX9_as_38 : decode cX9_as 38 = .ok (.iload_n 3, 1) := by decide +kernel
theorem dX9_as_39 : decode cX9_as 39 = .ok (.invokestatic 105, 3) := by decide +kernel
theorem dX9_as_42 : decode cX9_as 42 = .ok (.istore_n 3, 1) := by decide +kernel
theorem dX9_as_43 : decode cX9_as 43 = .ok (.goto (-14), 3) := by decide +kernel
theorem dX9_as_46 : decode cX9_as 46 = .ok (.iload_n 3, 1) := by decide +kernel
theorem dX9_as_47 : decode cX9_as 47 = .ok (.ifCond .ge 12, 3) := by decide +kernel
theorem dX9_as_50 : decode cX9_as 50 = .ok (.aload_n 0, 1) := by decide +kernel
theorem dX9_as_51 : decode cX9_as 51 = .ok (.ldc 108, 2) := by decide +kernel
theorem dX9_as_53 : decode cX9_as 53 = .ok (.invokevirtual 84, 3) := by decide +kernel
theorem dX9_as_56 : decode cX9_as 56 = .ok (.goto 9, 3) := by decide +kernel
theorem dX9_as_59 : decode cX9_as 59 = .ok (.aload_n 0, 1) := by decide +kernel
theorem dX9_as_60 : decode cX9_as 60 = .ok (.iload_n 1, 1) := by decide +kernel
theorem dX9_as_61 : decode cX9_as 61 = .ok (.iconst 1, 1) := by decide +kernel
theorem dX9_as_62 : decode cX9_as 62 = .ok (.invokevirtual 99, 3) := by decide +kernel
theorem dX9_as_65 : decode cX9_as 65 = .ok (.ireturn, 1) := by decide +kernel
theorem dX9_thrown_0 : decode cX9_thrown 0 = .ok (.aload_n 0, 1) := by decide +kernel
theorem dX9_thrown_1 : decode cX9_thrown 1 = .ok (.iload_n 1, 1) := by decide +kernel
theorem dX9_thrown_2 : decode cX9_thrown 2 = .ok (.invokevirtual 93, 3) := by decide +kernel
theorem dX9_thrown_5 : decode cX9_thrown 5 = .ok (.ifCond .eq 31, 3) := by decide +kernel
theorem dX9_thrown_8 : decode cX9_thrown 8 = .ok (.iload_n 2, 1) := by decide +kernel
theorem dX9_thrown_9 : decode cX9_thrown 9 = .ok (.iconst 0, 1) := by decide +kernel
theorem dX9_thrown_10 : decode cX9_thrown 10 = .ok (.iconst 3, 1) := by decide +kernel
theorem dX9_thrown_11 : decode cX9_thrown 11 = .ok (.invokestatic 75, 3) := by decide +kernel
theorem dX9_thrown_14 : decode cX9_thrown 14 = .ok (.ifCond .eq 22, 3) := by decide +kernel
theorem dX9_thrown_17 : decode cX9_thrown 17 = .ok (.aload_n 0, 1) := by decide +kernel
theorem dX9_thrown_18 : decode cX9_thrown 18 = .ok (.iload_n 1, 1) := by decide +kernel
theorem dX9_thrown_19 : decode cX9_thrown 19 = .ok (.iconst 0, 1) := by decide +kernel
theorem dX9_thrown_20 : decode cX9_thrown 20 = .ok (.invokevirtual 99, 3) := by decide +kernel
theorem dX9_thrown_23 : decode cX9_thrown 23 = .ok (.aload_n 0, 1) := by decide +kernel
theorem dX9_thrown_24 : decode cX9_thrown 24 = .ok (.iload_n 1, 1) := by decide +kernel
theorem dX9_thrown_25 : decode cX9_thrown 25 = .ok (.iconst 1, 1) := by decide +kernel
theorem dX9_thrown_26 : decode cX9_thrown 26 = .ok (.invokevirtual 99, 3) := by decide +kernel
theorem dX9_thrown_29 : decode cX9_thrown 29 = .ok (.iload_n 2, 1) := by decide +kernel
theorem dX9_thrown_30 : decode cX9_thrown 30 = .ok (.invokestatic 122, 3) := by decide +kernel
theorem dX9_thrown_33 : decode cX9_thrown 33 = .ok (.goto 9, 3) := by decide +kernel
theorem dX9_thrown_36 : decode cX9_thrown 36 = .ok (.aload_n 0, 1) := by decide +kernel
theorem dX9_thrown_37 : decode cX9_thrown 37 = .ok (.ldc 74, 2) := by decide +kernel
theorem dX9_thrown_39 : decode cX9_thrown 39 = .ok (.invokevirtual 84, 3) := by decide +kernel
theorem dX9_thrown_42 : decode cX9_thrown 42 = .ok (.ireturn, 1) := by decide +kernel
theorem dX9_shadowOf_0 : decode cX9_shadowOf 0 = .ok (.iload_n 2, 1) := by decide +kernel
theorem dX9_shadowOf_1 : decode cX9_shadowOf 1 = .ok (.sipush 4000, 3) := by decide +kernel
theorem dX9_shadowOf_4 : decode cX9_shadowOf 4 = .ok (.idiv, 1) := by decide +kernel
theorem dX9_shadowOf_5 : decode cX9_shadowOf 5 = .ok (.istore_n 3, 1) := by decide +kernel
theorem dX9_shadowOf_6 : decode cX9_shadowOf 6 = .ok (.aload_n 0, 1) := by decide +kernel
theorem dX9_shadowOf_7 : decode cX9_shadowOf 7 = .ok (.iload_n 1, 1) := by decide +kernel
theorem dX9_shadowOf_8 : decode cX9_shadowOf 8 = .ok (.iconst 0, 1) := by decide +kernel
theorem dX9_shadowOf_9 : decode cX9_shadowOf 9 = .ok (.invokevirtual 99, 3) := by decide +kernel
theorem dX9_shadowOf_12 : decode cX9_shadowOf 12 = .ok (.aload_n 0, 1) := by decide +kernel
theorem dX9_shadowOf_13 : decode cX9_shadowOf 13 = .ok (.iload_n 1, 1) := by decide +kernel
theorem dX9_shadowOf_14 : decode cX9_shadowOf 14 = .ok (.iconst 1, 1) := by decide +kernel
theorem dX9_shadowOf_15 : decode cX9_shadowOf 15 = .ok (.invokevirtual 99, 3) := by decide +kernel
theorem dX9_shadowOf_18 : decode cX9_shadowOf 18 = .ok (.iload_n 2, 1) := by decide +kernel
theorem dX9_shadowOf_19 : decode cX9_shadowOf 19 = .ok (.sipush 1000, 3) := by decide +kernel
theorem dX9_shadowOf_22 : decode cX9_shadowOf 22 = .ok (.idiv, 1) := by decide +kernel
theorem dX9_shadowOf_23 : decode cX9_shadowOf 23 = .ok (.iconst 4, 1) := by decide +kernel
theorem dX9_shadowOf_24 : decode cX9_shadowOf 24 = .ok (.irem, 1) := by decide +kernel
theorem dX9_shadowOf_25 : decode cX9_shadowOf 25 = .ok (.invokestatic 122, 3) := by decide +kernel
theorem dX9_shadowOf_28 : decode cX9_shadowOf 28 = .ok (.istore 4, 2) := by decide +kernel
theorem dX9_shadowOf_30 : decode cX9_shadowOf 30 = .ok (.iload_n 2, 1) := by decide +kernel
theorem dX9_shadowOf_31 : decode cX9_shadowOf 31 = .ok (.sipush 1000, 3) := by decide +kernel
theorem dX9_shadowOf_34 : decode cX9_shadowOf 34 = .ok (.irem, 1) := by decide +kernel
theorem dX9_shadowOf_35 : decode cX9_shadowOf 35 = .ok (.bipush 10, 2) := by decide +kernel
theorem dX9_shadowOf_37 : decode cX9_shadowOf 37 = .ok (.idiv, 1) := by decide +kernel
theorem dX9_shadowOf_38 : decode cX9_shadowOf 38 = .ok (.istore 5, 2) := by decide +kernel
theorem dX9_shadowOf_40 : decode cX9_shadowOf 40 = .ok (.iload_n 2, 1) := by decide +kernel
theorem dX9_shadowOf_41 : decode cX9_shadowOf 41 = .ok (.bipush 10, 2) := by decide +kernel
theorem dX9_shadowOf_43 : decode cX9_shadowOf 43 = .ok (.irem, 1) := by decide +kernel
theorem dX9_shadowOf_44 : decode cX9_shadowOf 44 = .ok (.istore 6, 2) := by decide +kernel
theorem dX9_shadowOf_46 : decode cX9_shadowOf 46 = .ok (.lconst 0, 1) := by decide +kernel
theorem dX9_shadowOf_47 : decode cX9_shadowOf 47 = .ok (.lstore 7, 2) := by decide +kernel
theorem dX9_shadowOf_49 : decode cX9_shadowOf 49 = .ok (.iconst 0, 1) := by decide +kernel
theorem dX9_shadowOf_50 : decode cX9_shadowOf 50 = .ok (.istore 9, 2) := by decide +kernel
theorem dX9_shadowOf_52 : decode cX9_shadowOf 52 = .ok (.iload 9, 2) := by decide +kernel
theorem dX9_shadowOf_54 : decode cX9_shadowOf 54 = .ok (.iconst 4, 1) := by decide +kernel
theorem dX9_shadowOf_55 : decode cX9_shadowOf 55 = .ok (.iload_n 3, 1) := by decide +kernel
theorem dX9_shadowOf_56 : decode cX9_shadowOf 56 = .ok (.imul, 1) := by decide +kernel
theorem dX9_shadowOf_57 : decode cX9_shadowOf 57 = .ok (.if_icmp .ge 87, 3) := by decide +kernel
theorem dX9_shadowOf_60 : decode cX9_shadowOf 60 = .ok (.iload 5, 2) := by decide +kernel
theorem dX9_shadowOf_62 : decode cX9_shadowOf 62 = .ok (.iload 9, 2) := by decide +kernel
theorem dX9_shadowOf_64 : decode cX9_shadowOf 64 = .ok (.iadd, 1) := by decide +kernel
theorem dX9_shadowOf_65 : decode cX9_shadowOf 65 = .ok (.bipush 8, 2) := by decide +kernel
theorem dX9_shadowOf_67 : decode cX9_shadowOf 67 = .ok (.if_icmp .ge 77, 3) := by decide +kernel
theorem dX9_shadowOf_70 : decode cX9_shadowOf 70 = .ok (.iconst 0, 1) := by decide +kernel
theorem dX9_shadowOf_71 : decode cX9_shadowOf 71 = .ok (.istore 10, 2) := by decide +kernel
theorem dX9_shadowOf_73 : decode cX9_shadowOf 73 = .ok (.iload 10, 2) := by decide +kernel
theorem dX9_shadowOf_75 : decode cX9_shadowOf 75 = .ok (.iconst 4, 1) := by decide +kernel
theorem dX9_shadowOf_76 : decode cX9_shadowOf 76 = .ok (.iload_n 3, 1) := by decide +kernel
theorem dX9_shadowOf_77 : decode cX9_shadowOf 77 = .ok (.imul, 1) := by decide +kernel
theorem dX9_shadowOf_78 : decode cX9_shadowOf 78 = .ok (.if_icmp .ge 60, 3) := by decide +kernel
theorem dX9_shadowOf_81 : decode cX9_shadowOf 81 = .ok (.iload 6, 2) := by decide +kernel
theorem dX9_shadowOf_83 : decode cX9_shadowOf 83 = .ok (.iload 10, 2) := by decide +kernel
theorem dX9_shadowOf_85 : decode cX9_shadowOf 85 = .ok (.iadd, 1) := by decide +kernel
theorem dX9_shadowOf_86 : decode cX9_shadowOf 86 = .ok (.bipush 8, 2) := by decide +kernel
theorem dX9_shadowOf_88 : decode cX9_shadowOf 88 = .ok (.if_icmp .ge 50, 3) := by decide +kernel
theorem dX9_shadowOf_91 : decode cX9_shadowOf 91 = .ok (.lload 7, 2) := by decide +kernel
theorem dX9_shadowOf_93 : decode cX9_shadowOf 93 = .ok (.iload 4, 2) := by decide +kernel
theorem dX9_shadowOf_95 : decode cX9_shadowOf 95 = .ok (.iload 9, 2) := by decide +kernel
theorem dX9_shadowOf_97 : decode cX9_shadowOf 97 = .ok (.iload_n 3, 1) := by decide +kernel
theorem dX9_shadowOf_98 : decode cX9_shadowOf 98 = .ok (.idiv, 1) := by decide +kernel
theorem dX9_shadowOf_99 : decode cX9_shadowOf 99 = .ok (.iload 10, 2) := by decide +kernel
theorem dX9_shadowOf_101 : decode cX9_shadowOf 101 = .ok (.iload_n 3, 1) := by decide +kernel
theorem dX9_shadowOf_102 : decode cX9_shadowOf 102 = .ok (.idiv, 1) := by decide +kernel
theorem dX9_shadowOf_103 : decode cX9_shadowOf 103 = .ok (.invokestatic 109, 3) := by decide +kernel
theorem dX9_shadowOf_106 : decode cX9_shadowOf 106 = .ok (.ifCond .eq 22, 3) := by decide +kernel
theorem dX9_shadowOf_109 : decode cX9_shadowOf 109 = .ok (.lconst 1, 1) := by decide +kernel
theorem dX9_shadowOf_110 : decode cX9_shadowOf 110 = .ok (.bipush 8, 2) := by decide +kernel
theorem dX9_shadowOf_112 : decode cX9_shadowOf 112 = .ok (.iload 5, 2) := by decide +kernel
theorem dX9_shadowOf_114 : decode cX9_shadowOf 114 = .ok (.iload 9, 2) := by decide +kernel
theorem dX9_shadowOf_116 : decode cX9_shadowOf 116 = .ok (.iadd, 1) := by decide +kernel
theorem dX9_shadowOf_117 : decode cX9_shadowOf 117 = .ok (.imul, 1) := by decide +kernel
theorem dX9_shadowOf_118 : decode cX9_shadowOf 118 = .ok (.iload 6, 2) := by decide +kernel
theorem dX9_shadowOf_120 : decode cX9_shadowOf 120 = .ok (.iadd, 1) := by decide +kernel
theorem dX9_shadowOf_121 : decode cX9_shadowOf 121 = .ok (.iload 10, 2) := by decide +kernel
theorem dX9_shadowOf_123 : decode cX9_shadowOf 123 = .ok (.iadd, 1) := by decide +kernel
theorem dX9_shadowOf_124 : decode cX9_shadowOf 124 = .ok (.lshl, 1) := by decide +kernel
theorem dX9_shadowOf_125 : decode cX9_shadowOf 125 = .ok (.goto 4, 3) := by decide +kernel
theorem dX9_shadowOf_128 : decode cX9_shadowOf 128 = .ok (.lconst 0, 1) := by decide +kernel
theorem dX9_shadowOf_129 : decode cX9_shadowOf 129 = .ok (.lor, 1) := by decide +kernel
theorem dX9_shadowOf_130 : decode cX9_shadowOf 130 = .ok (.lstore 7, 2) := by decide +kernel
theorem dX9_shadowOf_132 : decode cX9_shadowOf 132 = .ok (.iinc 10 1, 3) := by decide +kernel
theorem dX9_shadowOf_135 : decode cX9_shadowOf 135 = .ok (.goto (-62), 3) := by decide +kernel
theorem dX9_shadowOf_138 : decode cX9_shadowOf 138 = .ok (.iinc 9 1, 3) := by decide +kernel
theorem dX9_shadowOf_141 : decode cX9_shadowOf 141 = .ok (.goto (-89), 3) := by decide +kernel
theorem dX9_shadowOf_144 : decode cX9_shadowOf 144 = .ok (.lload 7, 2) := by decide +kernel
theorem dX9_shadowOf_146 : decode cX9_shadowOf 146 = .ok (.lreturn, 1) := by decide +kernel
theorem dX9_shadow_0 : decode cX9_shadow 0 = .ok (.aload_n 0, 1) := by decide +kernel
theorem dX9_shadow_1 : decode cX9_shadow 1 = .ok (.iload_n 1, 1) := by decide +kernel
theorem dX9_shadow_2 : decode cX9_shadow 2 = .ok (.invokevirtual 93, 3) := by decide +kernel
theorem dX9_shadow_5 : decode cX9_shadow 5 = .ok (.ifCond .eq 19, 3) := by decide +kernel
theorem dX9_shadow_8 : decode cX9_shadow 8 = .ok (.iload_n 2, 1) := by decide +kernel
theorem dX9_shadow_9 : decode cX9_shadow 9 = .ok (.invokestatic 126, 3) := by decide +kernel
theorem dX9_shadow_12 : decode cX9_shadow 12 = .ok (.ifCond .eq 12, 3) := by decide +kernel
theorem dX9_shadow_15 : decode cX9_shadow 15 = .ok (.aload_n 0, 1) := by decide +kernel
theorem dX9_shadow_16 : decode cX9_shadow 16 = .ok (.iload_n 1, 1) := by decide +kernel
theorem dX9_shadow_17 : decode cX9_shadow 17 = .ok (.iload_n 2, 1) := by decide +kernel
theorem dX9_shadow_18 : decode cX9_shadow 18 = .ok (.invokevirtual 129, 3) := by decide +kernel
theorem dX9_shadow_21 : decode cX9_shadow 21 = .ok (.goto 10, 3) := by decide +kernel
theorem dX9_shadow_24 : decode cX9_shadow 24 = .ok (.aload_n 0, 1) := by decide +kernel
theorem dX9_shadow_25 : decode cX9_shadow 25 = .ok (.ldc 74, 2) := by decide +kernel
theorem dX9_shadow_27 : decode cX9_shadow 27 = .ok (.invokevirtual 84, 3) := by decide +kernel
theorem dX9_shadow_30 : decode cX9_shadow 30 = .ok (.i2l, 1) := by decide +kernel
theorem dX9_shadow_31 : decode cX9_shadow 31 = .ok (.lreturn, 1) := by decide +kernel
theorem dX9_hold_0 : decode cX9_hold 0 = .ok (.aload_n 0, 1) := by decide +kernel
theorem dX9_hold_1 : decode cX9_hold 1 = .ok (.iload_n 1, 1) := by decide +kernel
theorem dX9_hold_2 : decode cX9_hold 2 = .ok (.invokevirtual 93, 3) := by decide +kernel
theorem dX9_hold_5 : decode cX9_hold 5 = .ok (.ifCond .eq 10, 3) := by decide +kernel
theorem dX9_hold_8 : decode cX9_hold 8 = .ok (.iload_n 2, 1) := by decide +kernel
theorem dX9_hold_9 : decode cX9_hold 9 = .ok (.invokestatic 126, 3) := by decide +kernel
theorem dX9_hold_12 : decode cX9_hold 12 = .ok (.ifCond .ne 10, 3) := by decide +kernel
theorem dX9_hold_15 : decode cX9_hold 15 = .ok (.aload_n 0, 1) := by decide +kernel
theorem dX9_hold_16 : decode cX9_hold 16 = .ok (.ldc 74, 2) := by decide +kernel
theorem dX9_hold_18 : decode cX9_hold 18 = .ok (.invokevirtual 84, 3) := by decide +kernel
theorem dX9_hold_21 : decode cX9_hold 21 = .ok (.ireturn, 1) := by decide +kernel
theorem dX9_hold_22 : decode cX9_hold 22 = .ok (.aload_n 0, 1) := by decide +kernel
theorem dX9_hold_23 : decode cX9_hold 23 = .ok (.iload_n 1, 1) := by decide +kernel
theorem dX9_hold_24 : decode cX9_hold 24 = .ok (.invokevirtual 96, 3) := by decide +kernel
theorem dX9_hold_27 : decode cX9_hold 27 = .ok (.ifCond .lt 10, 3) := by decide +kernel
theorem dX9_hold_30 : decode cX9_hold 30 = .ok (.aload_n 0, 1) := by decide +kernel
theorem dX9_hold_31 : decode cX9_hold 31 = .ok (.ldc 133, 2) := by decide +kernel
theorem dX9_hold_33 : decode cX9_hold 33 = .ok (.invokevirtual 84, 3) := by decide +kernel
theorem dX9_hold_36 : decode cX9_hold 36 = .ok (.ireturn, 1) := by decide +kernel
theorem dX9_hold_37 : decode cX9_hold 37 = .ok (.aload_n 0, 1) := by decide +kernel
theorem dX9_hold_38 : decode cX9_hold 38 = .ok (.iconst (-1), 1) := by decide +kernel
theorem dX9_hold_39 : decode cX9_hold 39 = .ok (.invokevirtual 96, 3) := by decide +kernel
theorem dX9_hold_42 : decode cX9_hold 42 = .ok (.ifCond .ge 12, 3) := by decide +kernel
theorem dX9_hold_45 : decode cX9_hold 45 = .ok (.aload_n 0, 1) := by decide +kernel
theorem dX9_hold_46 : decode cX9_hold 46 = .ok (.ldc 88, 2) := by decide +kernel
theorem dX9_hold_48 : decode cX9_hold 48 = .ok (.invokevirtual 84, 3) := by decide +kernel
theorem dX9_hold_51 : decode cX9_hold 51 = .ok (.goto 9, 3) := by decide +kernel
theorem dX9_hold_54 : decode cX9_hold 54 = .ok (.aload_n 0, 1) := by decide +kernel
theorem dX9_hold_55 : decode cX9_hold 55 = .ok (.iload_n 1, 1) := by decide +kernel
theorem dX9_hold_56 : decode cX9_hold 56 = .ok (.iload_n 2, 1) := by decide +kernel
theorem dX9_hold_57 : decode cX9_hold 57 = .ok (.invokevirtual 134, 3) := by decide +kernel
theorem dX9_hold_60 : decode cX9_hold 60 = .ok (.ireturn, 1) := by decide +kernel
theorem dX9_move_0 : decode cX9_move 0 = .ok (.aload_n 0, 1) := by decide +kernel
theorem dX9_move_1 : decode cX9_move 1 = .ok (.iload_n 1, 1) := by decide +kernel
theorem dX9_move_2 : decode cX9_move 2 = .ok (.invokevirtual 93, 3) := by decide +kernel
theorem dX9_move_5 : decode cX9_move 5 = .ok (.ifCond .eq 10, 3) := by decide +kernel
theorem dX9_move_8 : decode cX9_move 8 = .ok (.iload_n 2, 1) := by decide +kernel
theorem dX9_move_9 : decode cX9_move 9 = .ok (.invokestatic 126, 3) := by decide +kernel
theorem dX9_move_12 : decode cX9_move 12 = .ok (.ifCond .ne 10, 3) := by decide +kernel
theorem dX9_move_15 : decode cX9_move 15 = .ok (.aload_n 0, 1) := by decide +kernel
theorem dX9_move_16 : decode cX9_move 16 = .ok (.ldc 74, 2) := by decide +kernel
theorem dX9_move_18 : decode cX9_move 18 = .ok (.invokevirtual 84, 3) := by decide +kernel
theorem dX9_move_21 : decode cX9_move 21 = .ok (.ireturn, 1) := by decide +kernel
theorem dX9_move_22 : decode cX9_move 22 = .ok (.aload_n 0, 1) := by decide +kernel
theorem dX9_move_23 : decode cX9_move 23 = .ok (.iload_n 1, 1) := by decide +kernel
theorem dX9_move_24 : decode cX9_move 24 = .ok (.invokevirtual 96, 3) := by decide +kernel
theorem dX9_move_27 : decode cX9_move 27 = .ok (.istore_n 3, 1) := by decide +kernel
theorem dX9_move_28 : decode cX9_move 28 = .ok (.iload_n 3, 1) := by decide +kernel
theorem dX9_move_29 : decode cX9_move 29 = .ok (.ifCond .ge 12, 3) := by decide +kernel
theorem dX9_move_32 : decode cX9_move 32 = .ok (.aload_n 0, 1) := by decide +kernel
theorem dX9_move_33 : decode cX9_move 33 = .ok (.ldc 133, 2) := by decide +kernel
theorem dX9_move_35 : decode cX9_move 35 = .ok (.invokevirtual 84, 3) := by decide +kernel
theorem dX9_move_38 : decode cX9_move 38 = .ok (.goto 12, 3) := by decide +kernel
theorem dX9_move_41 : decode cX9_move 41 = .ok (.aload_n 0, 1) := by decide +kernel
theorem dX9_move_42 : decode cX9_move 42 = .ok (.bipush 34, 2) := by decide +kernel
theorem dX9_move_44 : decode cX9_move 44 = .ok (.iload_n 3, 1) := by decide +kernel
theorem dX9_move_45 : decode cX9_move 45 = .ok (.iadd, 1) := by decide +kernel
theorem dX9_move_46 : decode cX9_move 46 = .ok (.iload_n 2, 1) := by decide +kernel
theorem dX9_move_47 : decode cX9_move 47 = .ok (.invokevirtual 102, 3) := by decide +kernel
theorem dX9_move_50 : decode cX9_move 50 = .ok (.ireturn, 1) := by decide +kernel
theorem dX9_drop_0 : decode cX9_drop 0 = .ok (.aload_n 0, 1) := by decide +kernel
theorem dX9_drop_1 : decode cX9_drop 1 = .ok (.iload_n 1, 1) := by decide +kernel
theorem dX9_drop_2 : decode cX9_drop 2 = .ok (.invokevirtual 93, 3) := by decide +kernel
theorem dX9_drop_5 : decode cX9_drop 5 = .ok (.ifCond .ne 10, 3) := by decide +kernel
theorem dX9_drop_8 : decode cX9_drop 8 = .ok (.aload_n 0, 1) := by decide +kernel
theorem dX9_drop_9 : decode cX9_drop 9 = .ok (.ldc 74, 2) := by decide +kernel
theorem dX9_drop_11 : decode cX9_drop 11 = .ok (.invokevirtual 84, 3) := by decide +kernel
theorem dX9_drop_14 : decode cX9_drop 14 = .ok (.ireturn, 1) := by decide +kernel
theorem dX9_drop_15 : decode cX9_drop 15 = .ok (.aload_n 0, 1) := by decide +kernel
theorem dX9_drop_16 : decode cX9_drop 16 = .ok (.iload_n 1, 1) := by decide +kernel
theorem dX9_drop_17 : decode cX9_drop 17 = .ok (.invokevirtual 96, 3) := by decide +kernel
theorem dX9_drop_20 : decode cX9_drop 20 = .ok (.istore_n 2, 1) := by decide +kernel
theorem dX9_drop_21 : decode cX9_drop 21 = .ok (.iload_n 2, 1) := by decide +kernel
theorem dX9_drop_22 : decode cX9_drop 22 = .ok (.ifCond .ge 10, 3) := by decide +kernel
theorem dX9_drop_25 : decode cX9_drop 25 = .ok (.aload_n 0, 1) := by decide +kernel
theorem dX9_drop_26 : decode cX9_drop 26 = .ok (.ldc 133, 2) := by decide +kernel
theorem dX9_drop_28 : decode cX9_drop 28 = .ok (.invokevirtual 84, 3) := by decide +kernel
theorem dX9_drop_31 : decode cX9_drop 31 = .ok (.ireturn, 1) := by decide +kernel
theorem dX9_drop_32 : decode cX9_drop 32 = .ok (.aload_n 0, 1) := by decide +kernel
theorem dX9_drop_33 : decode cX9_drop 33 = .ok (.getfield 9, 3) := by decide +kernel
theorem dX9_drop_36 : decode cX9_drop 36 = .ok (.bipush 30, 2) := by decide +kernel
theorem dX9_drop_38 : decode cX9_drop 38 = .ok (.iload_n 2, 1) := by decide +kernel
theorem dX9_drop_39 : decode cX9_drop 39 = .ok (.iadd, 1) := by decide +kernel
theorem dX9_drop_40 : decode cX9_drop 40 = .ok (.iconst (-1), 1) := by decide +kernel
theorem dX9_drop_41 : decode cX9_drop 41 = .ok (.iastore, 1) := by decide +kernel
theorem dX9_drop_42 : decode cX9_drop 42 = .ok (.aload_n 0, 1) := by decide +kernel
theorem dX9_drop_43 : decode cX9_drop 43 = .ok (.getfield 9, 3) := by decide +kernel
theorem dX9_drop_46 : decode cX9_drop 46 = .ok (.bipush 34, 2) := by decide +kernel
theorem dX9_drop_48 : decode cX9_drop 48 = .ok (.iload_n 2, 1) := by decide +kernel
theorem dX9_drop_49 : decode cX9_drop 49 = .ok (.iadd, 1) := by decide +kernel
theorem dX9_drop_50 : decode cX9_drop 50 = .ok (.iconst (-1), 1) := by decide +kernel
theorem dX9_drop_51 : decode cX9_drop 51 = .ok (.iastore, 1) := by decide +kernel
theorem dX9_drop_52 : decode cX9_drop 52 = .ok (.iload_n 2, 1) := by decide +kernel
theorem dX9_drop_53 : decode cX9_drop 53 = .ok (.ireturn, 1) := by decide +kernel
theorem dX9_held_0 : decode cX9_held 0 = .ok (.iload_n 1, 1) := by decide +kernel
theorem dX9_held_1 : decode cX9_held 1 = .ok (.iconst 0, 1) := by decide +kernel
theorem dX9_held_2 : decode cX9_held 2 = .ok (.iconst 3, 1) := by decide +kernel
theorem dX9_held_3 : decode cX9_held 3 = .ok (.invokestatic 75, 3) := by decide +kernel
theorem dX9_held_6 : decode cX9_held 6 = .ok (.ifCond .eq 33, 3) := by decide +kernel
theorem dX9_held_9 : decode cX9_held 9 = .ok (.iload_n 2, 1) := by decide +kernel
theorem dX9_held_10 : decode cX9_held 10 = .ok (.iconst 0, 1) := by decide +kernel
theorem dX9_held_11 : decode cX9_held 11 = .ok (.iconst 1, 1) := by decide +kernel
theorem dX9_held_12 : decode cX9_held 12 = .ok (.invokestatic 75, 3) := by decide +kernel
theorem dX9_held_15 : decode cX9_held 15 = .ok (.ifCond .eq 24, 3) := by decide +kernel
theorem dX9_held_18 : decode cX9_held 18 = .ok (.aload_n 0, 1) := by decide +kernel
theorem dX9_held_19 : decode cX9_held 19 = .ok (.getfield 9, 3) := by decide +kernel
theorem dX9_held_22 : decode cX9_held 22 = .ok (.iload_n 2, 1) := by decide +kernel
theorem dX9_held_23 : decode cX9_held 23 = .ok (.ifCond .ne 8, 3) := by decide +kernel
theorem dX9_held_26 : decode cX9_held 26 = .ok (.bipush 30, 2) := by decide +kernel
theorem dX9_held_28 : decode cX9_held 28 = .ok (.goto 5, 3) := by decide +kernel
theorem dX9_held_31 : decode cX9_held 31 = .ok (.bipush 34, 2) := by decide +kernel
theorem dX9_held_33 : decode cX9_held 33 = .ok (.iload_n 1, 1) := by decide +kernel
theorem dX9_held_34 : decode cX9_held 34 = .ok (.iadd, 1) := by decide +kernel
theorem dX9_held_35 : decode cX9_held 35 = .ok (.iaload, 1) := by decide +kernel
theorem dX9_held_36 : decode cX9_held 36 = .ok (.goto 9, 3) := by decide +kernel
theorem dX9_held_39 : decode cX9_held 39 = .ok (.aload_n 0, 1) := by decide +kernel
theorem dX9_held_40 : decode cX9_held 40 = .ok (.ldc 74, 2) := by decide +kernel
theorem dX9_held_42 : decode cX9_held 42 = .ok (.invokevirtual 84, 3) := by decide +kernel
theorem dX9_held_45 : decode cX9_held 45 = .ok (.ireturn, 1) := by decide +kernel
theorem dX9_shadowIn_0 : decode cX9_shadowIn 0 = .ok (.aload_n 0, 1) := by decide +kernel
theorem dX9_shadowIn_1 : decode cX9_shadowIn 1 = .ok (.getfield 9, 3) := by decide +kernel
theorem dX9_shadowIn_4 : decode cX9_shadowIn 4 = .ok (.bipush 30, 2) := by decide +kernel
theorem dX9_shadowIn_6 : decode cX9_shadowIn 6 = .ok (.iload_n 1, 1) := by decide +kernel
theorem dX9_shadowIn_7 : decode cX9_shadowIn 7 = .ok (.iadd, 1) := by decide +kernel
theorem dX9_shadowIn_8 : decode cX9_shadowIn 8 = .ok (.iaload, 1) := by decide +kernel
theorem dX9_shadowIn_9 : decode cX9_shadowIn 9 = .ok (.istore_n 2, 1) := by decide +kernel
theorem dX9_shadowIn_10 : decode cX9_shadowIn 10 = .ok (.iload_n 2, 1) := by decide +kernel
theorem dX9_shadowIn_11 : decode cX9_shadowIn 11 = .ok (.ifCond .lt 13, 3) := by decide +kernel
theorem dX9_shadowIn_14 : decode cX9_shadowIn 14 = .ok (.aload_n 0, 1) := by decide +kernel
theorem dX9_shadowIn_15 : decode cX9_shadowIn 15 = .ok (.iload_n 2, 1) := by decide +kernel
theorem dX9_shadowIn_16 : decode cX9_shadowIn 16 = .ok (.iconst 2, 1) := by decide +kernel
theorem dX9_shadowIn_17 : decode cX9_shadowIn 17 = .ok (.invokevirtual 99, 3) := by decide +kernel
theorem dX9_shadowIn_20 : decode cX9_shadowIn 20 = .ok (.iconst 1, 1) := by decide +kernel
theorem dX9_shadowIn_21 : decode cX9_shadowIn 21 = .ok (.if_icmp .ne 7, 3) := by decide +kernel
theorem dX9_shadowIn_24 : decode cX9_shadowIn 24 = .ok (.lconst 0, 1) := by decide +kernel
theorem dX9_shadowIn_25 : decode cX9_shadowIn 25 = .ok (.goto 17, 3) := by decide +kernel
theorem dX9_shadowIn_28 : decode cX9_shadowIn 28 = .ok (.aload_n 0, 1) := by decide +kernel
theorem dX9_shadowIn_29 : decode cX9_shadowIn 29 = .ok (.iload_n 2, 1) := by decide +kernel
theorem dX9_shadowIn_30 : decode cX9_shadowIn 30 = .ok (.aload_n 0, 1) := by decide +kernel
theorem dX9_shadowIn_31 : decode cX9_shadowIn 31 = .ok (.getfield 9, 3) := by decide +kernel
theorem dX9_shadowIn_34 : decode cX9_shadowIn 34 = .ok (.bipush 34, 2) := by decide +kernel
theorem dX9_shadowIn_36 : decode cX9_shadowIn 36 = .ok (.iload_n 1, 1) := by decide +kernel
theorem dX9_shadowIn_37 : decode cX9_shadowIn 37 = .ok (.iadd, 1) := by decide +kernel
theorem dX9_shadowIn_38 : decode cX9_shadowIn 38 = .ok (.iaload, 1) := by decide +kernel
theorem dX9_shadowIn_39 : decode cX9_shadowIn 39 = .ok (.invokevirtual 129, 3) := by decide +kernel
theorem dX9_shadowIn_42 : decode cX9_shadowIn 42 = .ok (.lreturn, 1) := by decide +kernel
theorem dX9_darkBut_0 : decode cX9_darkBut 0 = .ok (.lconst 0, 1) := by decide +kernel
theorem dX9_darkBut_1 : decode cX9_darkBut 1 = .ok (.lstore_n 2, 1) := by decide +kernel
theorem dX9_darkBut_2 : decode cX9_darkBut 2 = .ok (.iconst 0, 1) := by decide +kernel
theorem dX9_darkBut_3 : decode cX9_darkBut 3 = .ok (.istore 4, 2) := by decide +kernel
theorem dX9_darkBut_5 : decode cX9_darkBut 5 = .ok (.iload 4, 2) := by decide +kernel
theorem dX9_darkBut_7 : decode cX9_darkBut 7 = .ok (.iconst 4, 1) := by decide +kernel
theorem dX9_darkBut_8 : decode cX9_darkBut 8 = .ok (.if_icmp .ge 28, 3) := by decide +kernel
theorem dX9_darkBut_11 : decode cX9_darkBut 11 = .ok (.lload_n 2, 1) := by decide +kernel
theorem dX9_darkBut_12 : decode cX9_darkBut 12 = .ok (.iload 4, 2) := by decide +kernel
theorem dX9_darkBut_14 : decode cX9_darkBut 14 = .ok (.iload_n 1, 1) := by decide +kernel
theorem dX9_darkBut_15 : decode cX9_darkBut 15 = .ok (.if_icmp .ne 7, 3) := by decide +kernel
theorem dX9_darkBut_18 : decode cX9_darkBut 18 = .ok (.lconst 0, 1) := by decide +kernel
theorem dX9_darkBut_19 : decode cX9_darkBut 19 = .ok (.goto 9, 3) := by decide +kernel
theorem dX9_darkBut_22 : decode cX9_darkBut 22 = .ok (.aload_n 0, 1) := by decide +kernel
theorem dX9_darkBut_23 : decode cX9_darkBut 23 = .ok (.iload 4, 2) := by decide +kernel
theorem dX9_darkBut_25 : decode cX9_darkBut 25 = .ok (.invokevirtual 137, 3) := by decide +kernel
theorem dX9_darkBut_28 : decode cX9_darkBut 28 = .ok (.lor, 1) := by decide +kernel
theorem dX9_darkBut_29 : decode cX9_darkBut 29 = .ok (.lstore_n 2, 1) := by decide +kernel
theorem dX9_darkBut_30 : decode cX9_darkBut 30 = .ok (.iinc 4 1, 3) := by decide +kernel
theorem dX9_darkBut_33 : decode cX9_darkBut 33 = .ok (.goto (-28), 3) := by decide +kernel
theorem dX9_darkBut_36 : decode cX9_darkBut 36 = .ok (.lload_n 2, 1) := by decide +kernel
theorem dX9_darkBut_37 : decode cX9_darkBut 37 = .ok (.lreturn, 1) := by decide +kernel
theorem dX9_dark_0 : decode cX9_dark 0 = .ok (.aload_n 0, 1) := by decide +kernel
theorem dX9_dark_1 : decode cX9_dark 1 = .ok (.iconst (-1), 1) := by decide +kernel
theorem dX9_dark_2 : decode cX9_dark 2 = .ok (.invokevirtual 141, 3) := by decide +kernel
theorem dX9_dark_5 : decode cX9_dark 5 = .ok (.lreturn, 1) := by decide +kernel
theorem dX9_single_0 : decode cX9_single 0 = .ok (.lconst 0, 1) := by decide +kernel
theorem dX9_single_1 : decode cX9_single 1 = .ok (.lstore_n 1, 1) := by decide +kernel
theorem dX9_single_2 : decode cX9_single 2 = .ok (.iconst 0, 1) := by decide +kernel
theorem dX9_single_3 : decode cX9_single 3 = .ok (.istore_n 3, 1) := by decide +kernel
theorem dX9_single_4 : decode cX9_single 4 = .ok (.iload_n 3, 1) := by decide +kernel
theorem dX9_single_5 : decode cX9_single 5 = .ok (.iconst 4, 1) := by decide +kernel
theorem dX9_single_6 : decode cX9_single 6 = .ok (.if_icmp .ge 27, 3) := by decide +kernel
theorem dX9_single_9 : decode cX9_single 9 = .ok (.lload_n 1, 1) := by decide +kernel
theorem dX9_single_10 : decode cX9_single 10 = .ok (.aload_n 0, 1) := by decide +kernel
theorem dX9_single_11 : decode cX9_single 11 = .ok (.iload_n 3, 1) := by decide +kernel
theorem dX9_single_12 : decode cX9_single 12 = .ok (.invokevirtual 137, 3) := by decide +kernel
theorem dX9_single_15 : decode cX9_single 15 = .ok (.aload_n 0, 1) := by decide +kernel
theorem dX9_single_16 : decode cX9_single 16 = .ok (.iload_n 3, 1) := by decide +kernel
theorem dX9_single_17 : decode cX9_single 17 = .ok (.invokevirtual 141, 3) := by decide +kernel
theorem dX9_single_20 : decode cX9_single 20 = .ok (.ldc2_w 144, 3) := by decide +kernel
theorem dX9_single_23 : decode cX9_single 23 = .ok (.lxor, 1) := by decide +kernel
theorem dX9_single_24 : decode cX9_single 24 = .ok (.land, 1) := by decide +kernel
theorem dX9_single_25 : decode cX9_single 25 = .ok (.lor, 1) := by decide +kernel
theorem dX9_single_26 : decode cX9_single 26 = .ok (.lstore_n 1, 1) := by decide +kernel
theorem dX9_single_27 : decode cX9_single 27 = .ok (.iinc 3 1, 3) := by decide +kernel
theorem dX9_single_30 : decode cX9_single 30 = .ok (.goto (-26), 3) := by decide +kernel
theorem dX9_single_33 : decode cX9_single 33 = .ok (.lload_n 1, 1) := by decide +kernel
theorem dX9_single_34 : decode cX9_single 34 = .ok (.lreturn, 1) := by decide +kernel
theorem dX9_spare_0 : decode cX9_spare 0 = .ok (.aload_n 0, 1) := by decide +kernel
theorem dX9_spare_1 : decode cX9_spare 1 = .ok (.invokevirtual 146, 3) := by decide +kernel
theorem dX9_spare_4 : decode cX9_spare 4 = .ok (.lstore_n 1, 1) := by decide +kernel
theorem dX9_spare_5 : decode cX9_spare 5 = .ok (.iconst 0, 1) := by decide +kernel
theorem dX9_spare_6 : decode cX9_spare 6 = .ok (.istore_n 3, 1) := by decide +kernel
theorem dX9_spare_7 : decode cX9_spare 7 = .ok (.iload_n 3, 1) := by decide +kernel
theorem dX9_spare_8 : decode cX9_spare 8 = .ok (.aload_n 0, 1) := by decide +kernel
theorem dX9_spare_9 : decode cX9_spare 9 = .ok (.getfield 9, 3) := by decide +kernel
theorem dX9_spare_12 : decode cX9_spare 12 = .ok (.iconst 0, 1) := by decide +kernel
theorem dX9_spare_13 : decode cX9_spare 13 = .ok (.iaload, 1) := by decide +kernel
theorem dX9_spare_14 : decode cX9_spare 14 = .ok (.if_icmp .ge 43, 3) := by decide +kernel
theorem dX9_spare_17 : decode cX9_spare 17 = .ok (.aload_n 0, 1) := by decide +kernel
theorem dX9_spare_18 : decode cX9_spare 18 = .ok (.iload_n 3, 1) := by decide +kernel
theorem dX9_spare_19 : decode cX9_spare 19 = .ok (.invokevirtual 96, 3) := by decide +kernel
theorem dX9_spare_22 : decode cX9_spare 22 = .ok (.istore 4, 2) := by decide +kernel
theorem dX9_spare_24 : decode cX9_spare 24 = .ok (.iload 4, 2) := by decide +kernel
theorem dX9_spare_26 : decode cX9_spare 26 = .ok (.ifCond .lt 25, 3) := by decide +kernel
theorem dX9_spare_29 : decode cX9_spare 29 = .ok (.aload_n 0, 1) := by decide +kernel
theorem dX9_spare_30 : decode cX9_spare 30 = .ok (.iload_n 3, 1) := by decide +kernel
theorem dX9_spare_31 : decode cX9_spare 31 = .ok (.iconst 2, 1) := by decide +kernel
theorem dX9_spare_32 : decode cX9_spare 32 = .ok (.invokevirtual 99, 3) := by decide +kernel
theorem dX9_spare_35 : decode cX9_spare 35 = .ok (.ifCond .ne 16, 3) := by decide +kernel
theorem dX9_spare_38 : decode cX9_spare 38 = .ok (.aload_n 0, 1) := by decide +kernel
theorem dX9_spare_39 : decode cX9_spare 39 = .ok (.iload 4, 2) := by decide +kernel
theorem dX9_spare_41 : decode cX9_spare 41 = .ok (.invokevirtual 141, 3) := by decide +kernel
theorem dX9_spare_44 : decode cX9_spare 44 = .ok (.lload_n 1, 1) := by decide +kernel
theorem dX9_spare_45 : decode cX9_spare 45 = .ok (.lcmp, 1) := by decide +kernel
theorem dX9_spare_46 : decode cX9_spare 46 = .ok (.ifCond .ne 5, 3) := by decide +kernel
theorem dX9_spare_49 : decode cX9_spare 49 = .ok (.iload_n 3, 1) := by decide +kernel
theorem dX9_spare_50 : decode cX9_spare 50 = .ok (.ireturn, 1) := by decide +kernel
theorem dX9_spare_51 : decode cX9_spare 51 = .ok (.iinc 3 1, 3) := by decide +kernel
theorem dX9_spare_54 : decode cX9_spare 54 = .ok (.goto (-47), 3) := by decide +kernel
theorem dX9_spare_57 : decode cX9_spare 57 = .ok (.aload_n 0, 1) := by decide +kernel
theorem dX9_spare_58 : decode cX9_spare 58 = .ok (.ldc 150, 2) := by decide +kernel
theorem dX9_spare_60 : decode cX9_spare 60 = .ok (.invokevirtual 84, 3) := by decide +kernel
theorem dX9_spare_63 : decode cX9_spare 63 = .ok (.ireturn, 1) := by decide +kernel
def w_m_shape : List Cond := .code yX9_shape cX9_shape 3 (some .int) :: (([.methodLink RX9 79 yX9_isKind, .static yX9_isKind, .initialized RX9, .code yX9_isKind cX9_isKind 1 (some .boolean), .methodLink RX9 75 yX9_within, .static yX9_within, .code yX9_within cX9_within 3 (some .boolean), .constant RX9 74 (-1000000001), .methodLink RX9 84 yX9_finding, .instanceMethod yX9_finding, .selects RX9 yX9_finding yX9_finding, .code yX9_finding cX9_finding 2 (some .int), .fieldLink RX9 23 "LampShapesModel" "found" "[I", .constant RX9 83 (65535), .fieldLink RX9 9 "LampShapesModel" "now" "[I", .methodLink RX9 89 yX9_made, .instanceMethod yX9_made, .selects RX9 yX9_made yX9_made, .code yX9_made cX9_made 5 (some .int), .constant RX9 88 (-1000000002)] : List Cond) ++ wsX90)
set_option maxRecDepth 20000 in
theorem g_m_shape_m_isKind_79 : GoodIn w_m_shape (va_wsS RX9 79 yX9_isKind w_m_isKind) := goodIn_r _ [1, 2, 3, 4, 5, 6, 3, 7] rfl (by decide +kernel)
set_option maxRecDepth 20000 in
theorem g_m_shape_mf_beyond_84 : GoodIn w_m_shape (wsV RX9 84 RX9 yX9_finding w_mf_beyond) := goodIn_r _ [9, 10, 11, 3, 12, 13, 8, 21, 22, 23, 24, 25, 26, 27, 28, 29, 30, 31, 32, 33, 34, 35, 36, 37, 38, 39, 40, 41, 42, 43, 44, 45, 46, 47, 48] rfl (by decide +kernel)
set_option maxRecDepth 20000 in
theorem g_m_shape_m_within_75 : GoodIn w_m_shape (va_wsS RX9 75 yX9_within w_m_within) := goodIn_r _ [5, 6, 3, 7] rfl (by decide +kernel)
set_option maxRecDepth 20000 in
theorem g_m_shape_m_made_89 : GoodIn w_m_shape (wsV RX9 89 RX9 yX9_made w_m_made) := goodIn_r _ [16, 17, 18, 3, 19, 15, 21, 22, 23, 24, 25, 26, 27, 28, 29, 30, 31, 32, 33, 34, 35, 36, 37, 38, 39, 40, 41, 42, 43, 44, 45, 46, 47, 48] rfl (by decide +kernel)
set_option maxRecDepth 20000 in
theorem g_m_shape_mf_full_84 : GoodIn w_m_shape (wsV RX9 84 RX9 yX9_finding w_mf_full) := goodIn_r _ [9, 10, 11, 3, 12, 13, 8, 21, 22, 23, 24, 25, 26, 27, 28, 29, 30, 31, 32, 33, 34, 35, 36, 37, 38, 39, 40, 41, 42, 43, 44, 45, 46, 47, 48] rfl (by decide +kernel)
set_option maxHeartbeats 4000000 in
set_option maxRecDepth 100000 in
theorem m_shape (l : Launch) (dC : Nat → ClassId) (dI : Nat → Nat → Nat) (ad : Nat → Nat) (h0 : Nat) (a : Int32) (b : Int32) (a0 : Nat) (v1 : Value) (v2 : Value) (v3 : Value) (v4 : Value) (t0 : Nat) (v6 : Value) (v7 : Value) (v8 : Value) (v9 : Value) (v10 : Value) (v11 : Value) (v12 : Value) (v13 : Value) (v14 : Value) (v15 : Value) (v16 : Value) (v17 : Value) (v18 : Value) (v19 : Value) (v20 : Value) (v21 : Value) (v22 : Value) (v23 : Value) (v24 : Value) (v25 : Value) (v26 : Value) (v27 : Value) (tc : ClassId) (tf : Nat → Int32) (ac : ClassId) (nf : Nat → Int32) (sz : Nat) (hI : mI nf) : Met l yX9_shape w_m_shape ({ frames := 2, cells := 0, slots := 0, locals := 42 } : Room) (va_Pc [.ref h0, .int a, .int b] (preM dC dI ad [(tc, .int), (ac, .int)] [(h0, .inr (7, [.ref a0, v1, v2, v3, v4, .ref t0, v6, v7, v8, v9, v10, v11, v12, v13, v14, v15, v16, v17, v18, v19, v20, v21, v22, v23, v24, v25, v26, v27])), (t0, .inl (tc, 8, .inl tf)), (a0, .inl (ac, 38, .inl nf))] sz)) (va_Qi (fun (r : Int32) (_ : Unit) => True) (fun _ t => ∃ (tg : Nat → Int32), ∃ (ng : Nat → Int32), (mI ng) ∧ ((ng 2).toInt = (nf 2).toInt) ∧ va_P (dC, dI) vwCl [(h0, .inr (7, [.ref a0, v1, v2, v3, v4, .ref t0, v6, v7, v8, v9, v10, v11, v12, v13, v14, v15, v16, v17, v18, v19, v20, v21, v22, v23, v24, v25, v26, v27])), (t0, .inl (tc, 8, .inl tg)), (a0, .inl (ac, 38, .inl ng))] t.heap ∧ va_K (dC, dI) vwCl [(tc, .int), (ac, .int)] t ∧ va_D (va_A [(h0, .inr (7, [.ref a0, v1, v2, v3, v4, .ref t0, v6, v7, v8, v9, v10, v11, v12, v13, v14, v15, v16, v17, v18, v19, v20, v21, v22, v23, v24, v25, v26, v27])), (t0, .inl (tc, 8, .inl tf)), (a0, .inl (ac, 38, .inl nf))] sz) [(h0, .inr (7, [.ref a0, v1, v2, v3, v4, .ref t0, v6, v7, v8, v9, v10, v11, v12, v13, v14, v15, v16, v17, v18, v19, v20, v21, v22, v23, v24, v25, v26, v27])), (t0, .inl (tc, 8, .inl tg)), (a0, .inl (ac, 38, .inl ng))]) (va_A [(h0, .inr (7, [.ref a0, v1, v2, v3, v4, .ref t0, v6, v7, v8, v9, v10, v11, v12, v13, v14, v15, v16, v17, v18, v19, v20, v21, v22, v23, v24, v25, v26, v27])), (t0, .inl (tc, 8, .inl tf)), (a0, .inl (ac, 38, .inl nf))] sz)) 0 0 (va_A [(h0, .inr (7, [.ref a0, v1, v2, v3, v4, .ref t0, v6, v7, v8, v9, v10, v11, v12, v13, v14, v15, v16, v17, v18, v19, v20, v21, v22, v23, v24, v25, v26, v27])), (t0, .inl (tc, 8, .inl tf)), (a0, .inl (ac, 38, .inl nf))] sz) := by
  refine Met.ofW (cc := cX9_shape) (maxL := 3) (ret := (some .int)) (by decide) rfl ?_
  intro p e s m args below meth c s₁ B hml hv
  obtain ⟨rfl, hsz, hP, hK, hD0, hev⟩ := hv
  have hx := B.exec
  have hb := B.bytes
  have hr := B.returns
  have hts := atoms_spec (ws := w_m_shape) B.pre
  have hown : s.vm.findClass RX9 = some m.cls := findClass_of_methodNamed B.named
  have hlocks := B.notSynchronized
  have inX9 : ∀ w ∈ wsX90, w ∈ w_m_shape := fun w h => List.mem_cons_of_mem _ (List.mem_append_right _ h)
  subst hsz
  have hD := hD0.self (sz := s.heap.size)
  generalize hAe : va_A [(h0, .inr (7, [.ref a0, v1, v2, v3, v4, .ref t0, v6, v7, v8, v9, v10, v11, v12, v13, v14, v15, v16, v17, v18, v19, v20, v21, v22, v23, v24, v25, v26, v27])), (t0, .inl (tc, 8, .inl tf)), (a0, .inl (ac, 38, .inl nf))] s.heap.size = A at hD ⊢
  have hA : ∀ q : Nat, s.heap.size ≤ q → A q := fun q h => by rw [← hAe]; exact Or.inr h
  have hS : va_S A s.heap s.heap [] := va_S.rf
  have hP : va_P (dC, dI) vwCl [(h0, .inr (7, [.ref a0, v1, v2, v3, v4, .ref t0, v6, v7, v8, v9, v10, v11, v12, v13, v14, v15, v16, v17, v18, v19, v20, v21, v22, v23, v24, v25, v26, v27])), (t0, .inl (tc, 8, .inl tf)), (a0, .inl (ac, 38, .inl nf))] s.heap := hP
  have hl := lv_entry ([.ref h0, .int a, .int b]) (n := 3) (Nat.le_of_ble_eq_true rfl)
  rw [lg_entry_eq]
  generalize (lg_sl ([.ref h0, .int a, .int b]) ++ List.replicate (3 - (lg_sl ([.ref h0, .int a, .int b])).length) Slot.unset).toArray = ls at hl ⊢
  have hl : lv_has ls 3 [(0, .ref h0), (1, .int a), (2, .int b)] := hl
  refine lv_iload_n hx hb dX9_shape_0 rfl (lv_at hl 1 rfl) ?_
  have hPc := hP.sub (ws' := []) [] rfl
  have hKc := hK.sub (tys' := []) [] rfl
  refine vp_callSi (W.runS (As := [.int a]) (rest := []) ⟨hx, hb, hml, hown, hts⟩ (m_isKind l dC dI ad a ) (va_cwS 1 hts g_m_shape_m_isKind_79 rfl rfl rfl (by decide +kernel) ⟨(Nat.le_of_ble_eq_true rfl), (Nat.le_of_ble_eq_true rfl)⟩) ⟨preS_blind, fun U hU hW => ⟨rfl, preS_at hU hW hPc hKc hev⟩⟩ rfl rfl hl.1 rfl (lv_room (Nat.le_of_ble_eq_true rfl)) dX9_shape_1 ⟨(Nat.le_of_ble_eq_true rfl), (Nat.le_of_ble_eq_true rfl)⟩) (fun r_1 hw => ?_)
  refine lv_if_eq (tgt := 17) hx hb dX9_shape_4 (by decide) (fun c_2 => ?_) (fun c_2 => ?_)
  · skip
    have tc_2 : r_1.toInt = 0 := (fa_eq _ _).mp c_2
    refine lv_aload_n hx hb dX9_shape_17 rfl (lv_at hl 0 rfl) ?_
    refine lv_ldc hx hb hown (hts _ (List.mem_of_getElem? (i := 8) rfl)) dX9_shape_18 ?_
    have hPc := hP.sub (ws' := [(h0, .inr (7, [.ref a0, v1, v2, v3, v4, .ref t0, v6, v7, v8, v9, v10, v11, v12, v13, v14, v15, v16, v17, v18, v19, v20, v21, v22, v23, v24, v25, v26, v27])), (t0, .inl (tc, 8, .inl tf))]) [0, 1] rfl
    have hKc := hK.sub (tys' := [(tc, .int)]) [0] rfl
    have hDc := hD.sub (ws' := [(h0, .inr (7, [.ref a0, v1, v2, v3, v4, .ref t0, v6, v7, v8, v9, v10, v11, v12, v13, v14, v15, v16, v17, v18, v19, v20, v21, v22, v23, v24, v25, v26, v27])), (t0, .inl (tc, 8, .inl tf))]) [0, 1] (by decide) rfl
    have hFc := va_free (wc := [(h0, .inr (7, [.ref a0, v1, v2, v3, v4, .ref t0, v6, v7, v8, v9, v10, v11, v12, v13, v14, v15, v16, v17, v18, v19, v20, v21, v22, v23, v24, v25, v26, v27])), (t0, .inl (tc, 8, .inl tf))]) hD hS hA [0, 1] rfl
    refine va_calli (va_runV (As := [.int (-1000000001)]) (rest := []) ⟨hx, hb, hml, hown, hts⟩ (mf_beyond l dC dI ad h0 (.ref a0) v1 v2 v3 v4 t0 v6 v7 v8 v9 v10 v11 v12 v13 v14 v15 v16 v17 v18 v19 v20 v21 v22 v23 v24 v25 v26 v27 tc tf s.heap.size ) (cwV 1 hts g_m_shape_mf_beyond_84 rfl rfl rfl (by decide +kernel) ⟨(Nat.le_of_ble_eq_true rfl), (Nat.le_of_ble_eq_true rfl)⟩) ⟨preM_blind, va_recv hKc hPc (ci := 7) (q0 := 0) rfl rfl, fun U hU hW => ⟨rfl, preM_at hU hW hPc hKc hDc hev⟩⟩ rfl rfl hl.1 rfl (lv_room (Nat.le_of_ble_eq_true rfl)) dX9_shape_20 ⟨(Nat.le_of_ble_eq_true rfl), (Nat.le_of_ble_eq_true rfl)⟩) hS (fun q _ h => hFc q h) hFc (fun r_3 u t H1 locs ht hvm hw hB hz1 hk1 hS => ?_)
    obtain ⟨tg_4, hP1, hK1, hD1⟩ := hB
    rw [ht] at hP1
    have hK1 := va_K.moved hvm.symm hK1
    obtain ⟨hP, hD⟩ := va_join (wr := [(a0, .inl (ac, 38, .inl nf))]) (w1 := [(h0, .inr (7, [.ref a0, v1, v2, v3, v4, .ref t0, v6, v7, v8, v9, v10, v11, v12, v13, v14, v15, v16, v17, v18, v19, v20, v21, v22, v23, v24, v25, v26, v27])), (t0, .inl (tc, 8, .inl tg_4))]) hP hD [0, 1] [2] rfl rfl (by decide) (by decide) hk1 hFc hP1 hD1
    generalize H1 = H at hP hS ⊢
    have hP : va_P (dC, dI) vwCl [(a0, .inl (ac, 38, .inl nf)), (h0, .inr (7, [.ref a0, v1, v2, v3, v4, .ref t0, v6, v7, v8, v9, v10, v11, v12, v13, v14, v15, v16, v17, v18, v19, v20, v21, v22, v23, v24, v25, v26, v27])), (t0, .inl (tc, 8, .inl tg_4))] H := hP
    have hD : va_D A [(a0, .inl (ac, 38, .inl nf)), (h0, .inr (7, [.ref a0, v1, v2, v3, v4, .ref t0, v6, v7, v8, v9, v10, v11, v12, v13, v14, v15, v16, v17, v18, v19, v20, v21, v22, v23, v24, v25, v26, v27])), (t0, .inl (tc, 8, .inl tg_4))] := hD
    subst hw
    have hP9 := hP.sub (ws' := [(h0, .inr (7, [.ref a0, v1, v2, v3, v4, .ref t0, v6, v7, v8, v9, v10, v11, v12, v13, v14, v15, v16, v17, v18, v19, v20, v21, v22, v23, v24, v25, v26, v27])), (t0, .inl (tc, 8, .inl tg_4)), (a0, .inl (ac, 38, .inl nf))]) [1, 2, 0] rfl
    have hD9 := hD.sub (ws' := [(h0, .inr (7, [.ref a0, v1, v2, v3, v4, .ref t0, v6, v7, v8, v9, v10, v11, v12, v13, v14, v15, v16, v17, v18, v19, v20, v21, v22, v23, v24, v25, v26, v27])), (t0, .inl (tc, 8, .inl tg_4)), (a0, .inl (ac, 38, .inl nf))]) [1, 2, 0] (by decide) rfl
    have hK9 := hK.sub (tys' := [(tc, .int), (ac, .int)]) [0, 1] rfl
    exact W.iret (v := ((-1000000001) : Int32)) hx hb hr (fun t ht hW => ⟨⟨((-1000000001) : Int32), (), rfl, trivial, tg_4, nf, hI, (by first | omega | decide | (simp only [fa_lt, fa_le, fa_eq, and_true, true_and, and_false, false_and, not_true_eq_false, not_false_eq_true, li_0, li_1, li_2, li_3, li_4, li_5, li_6, li_7, li_8, li_9, li_10, li_12, li_15, li_16, li_20, li_30, li_34, li_38, li_40, li_63, li_64, li_65, li_78, li_120, li_1000, li_4000, li_10000, li_11077, li_255, li_65535, li_m1, li_m2, li_m1000000001, li_m1000000002, li_m1000000003, li_m1000000004, li_m1000000005, li_m1000000006, li_m1000000007, or_true, true_or, or_false, false_or, implies_true, true_implies, false_implies] <;> omega)), by rw [ht]; exact hP9, va_K.moved hW.alike hK9, hD9⟩, hS.F ht⟩) hS.2.2 dX9_shape_23
  · skip
    have tc_2 : ¬ r_1.toInt = 0 := fun h => c_2 ((fa_eq _ _).mpr h)
    refine lv_iload_n hx hb dX9_shape_7 rfl (lv_at hl 2 rfl) ?_
    refine lv_iconst (v := 0) hx hb dX9_shape_8 (by decide) ?_
    refine lv_ldc hx hb hown (hts _ (List.mem_of_getElem? (i := 14) rfl)) dX9_shape_9 ?_
    have hPc := hP.sub (ws' := []) [] rfl
    have hKc := hK.sub (tys' := []) [] rfl
    refine vp_callSi (W.runS (As := [.int b, .int 0, .int 65535]) (rest := []) ⟨hx, hb, hml, hown, hts⟩ (m_within l dC dI ad b 0 65535 ) (va_cwS 3 hts g_m_shape_m_within_75 rfl rfl rfl (by decide +kernel) ⟨(Nat.le_of_ble_eq_true rfl), (Nat.le_of_ble_eq_true rfl)⟩) ⟨preS_blind, fun U hU hW => ⟨rfl, preS_at hU hW hPc hKc hev⟩⟩ rfl rfl hl.1 rfl (lv_room (Nat.le_of_ble_eq_true rfl)) dX9_shape_11 ⟨(Nat.le_of_ble_eq_true rfl), (Nat.le_of_ble_eq_true rfl)⟩) (fun r_5 hw => ?_)
    have hr_5 : (r_5.toInt = 1 ∧ 0 ≤ b.toInt ∧ b.toInt ≤ 65535) ∨ (r_5.toInt = 0 ∧ ¬ (0 ≤ b.toInt ∧ b.toInt ≤ 65535)) := hw
    refine lv_if_ne (tgt := 24) hx hb dX9_shape_14 (by decide) (fun c_6 => ?_) (fun c_6 => ?_)
    · skip
      have tc_6 : ¬ r_5.toInt = 0 := fun h => c_6 ((fa_eq _ _).mpr h)
      have i_7 : 0 ≤ b.toInt ∧ b.toInt ≤ 65535 := by omega
      refine lv_aload_n hx hb dX9_shape_24 rfl (lv_at hl 0 rfl) ?_
      refine va_get (D := (dC, dI)) (ci := 7) (v := .ref a0) (C := RX9) (T := TX9) (N := 28) hx hb hts inX9 hown hK hP 0 rfl rfl 0 (by decide) (hts _ (List.mem_of_getElem? (i := 15) rfl)) (fun _ h9 => h9) rfl dX9_shape_25 ?_
      refine lv_iconst (v := 0) hx hb dX9_shape_28 (by decide) ?_
      refine va_iald hx hb hK hP 2 1 rfl rfl (vp_in_nI (n := 0) (by decide) (by decide)) dX9_shape_29 ?_
      refine pp_ti (y := nf 0) rfl ?_
      refine lv_topi (fun n_8 en_8 => ?_)
      have tn_8 : n_8.toInt = (nf 0).toInt ∧ 0 ≤ n_8.toInt ∧ n_8.toInt ≤ 9 := mI_r0 hI en_8
      clear en_8
      refine lv_bipush (v := 9) hx hb dX9_shape_30 (by decide) ?_
      refine lv_icmp_ne (tgt := 44) hx hb dX9_shape_32 (by decide) (fun c_9 => ?_) (fun c_9 => ?_)
      · skip
        have tc_9 : ¬ n_8.toInt = 9 := fun h => c_9 ((fa_eq _ _).mpr h)
        refine lv_aload_n hx hb dX9_shape_44 rfl (lv_at hl 0 rfl) ?_
        refine lv_iload_n hx hb dX9_shape_45 rfl (lv_at hl 1 rfl) ?_
        refine lv_iload_n hx hb dX9_shape_46 rfl (lv_at hl 2 rfl) ?_
        have hPc := hP.sub (ws' := [(h0, .inr (7, [.ref a0, v1, v2, v3, v4, .ref t0, v6, v7, v8, v9, v10, v11, v12, v13, v14, v15, v16, v17, v18, v19, v20, v21, v22, v23, v24, v25, v26, v27])), (a0, .inl (ac, 38, .inl nf))]) [0, 2] rfl
        have hKc := hK.sub (tys' := [(ac, .int)]) [1] rfl
        have hDc := hD.sub (ws' := [(h0, .inr (7, [.ref a0, v1, v2, v3, v4, .ref t0, v6, v7, v8, v9, v10, v11, v12, v13, v14, v15, v16, v17, v18, v19, v20, v21, v22, v23, v24, v25, v26, v27])), (a0, .inl (ac, 38, .inl nf))]) [0, 2] (by decide) rfl
        have hFc := va_free (wc := [(h0, .inr (7, [.ref a0, v1, v2, v3, v4, .ref t0, v6, v7, v8, v9, v10, v11, v12, v13, v14, v15, v16, v17, v18, v19, v20, v21, v22, v23, v24, v25, v26, v27])), (a0, .inl (ac, 38, .inl nf))]) hD hS hA [0, 2] rfl
        refine va_calli (va_runV (As := [.int a, .int b]) (rest := []) ⟨hx, hb, hml, hown, hts⟩ (m_made l dC dI ad h0 a b a0 v1 v2 v3 v4 (.ref t0) v6 v7 v8 v9 v10 v11 v12 v13 v14 v15 v16 v17 v18 v19 v20 v21 v22 v23 v24 v25 v26 v27 ac nf s.heap.size hI (by first | omega | decide | (simp only [fa_lt, fa_le, fa_eq, and_true, true_and, and_false, false_and, not_true_eq_false, not_false_eq_true, li_0, li_1, li_2, li_3, li_4, li_5, li_6, li_7, li_8, li_9, li_10, li_12, li_15, li_16, li_20, li_30, li_34, li_38, li_40, li_63, li_64, li_65, li_78, li_120, li_1000, li_4000, li_10000, li_11077, li_255, li_65535, li_m1, li_m2, li_m1000000001, li_m1000000002, li_m1000000003, li_m1000000004, li_m1000000005, li_m1000000006, li_m1000000007, or_true, true_or, or_false, false_or, implies_true, true_implies, false_implies] <;> omega))) (cwV 2 hts g_m_shape_m_made_89 rfl rfl rfl (by decide +kernel) ⟨(Nat.le_of_ble_eq_true rfl), (Nat.le_of_ble_eq_true rfl)⟩) ⟨preM_blind, va_recv hKc hPc (ci := 7) (q0 := 0) rfl rfl, fun U hU hW => ⟨rfl, preM_at hU hW hPc hKc hDc hev⟩⟩ rfl rfl hl.1 rfl (lv_room (Nat.le_of_ble_eq_true rfl)) dX9_shape_47 ⟨(Nat.le_of_ble_eq_true rfl), (Nat.le_of_ble_eq_true rfl)⟩) hS (fun q _ h => hFc q h) hFc (fun r_10 u t H1 locs ht hvm hw hB hz1 hk1 hS => ?_)
        obtain ⟨ng_11, hq_12, hq_13, hq_14, hP1, hK1, hD1⟩ := hB
        rw [ht] at hP1
        have hK1 := va_K.moved hvm.symm hK1
        obtain ⟨hP, hD⟩ := va_join (wr := [(t0, .inl (tc, 8, .inl tf))]) (w1 := [(h0, .inr (7, [.ref a0, v1, v2, v3, v4, .ref t0, v6, v7, v8, v9, v10, v11, v12, v13, v14, v15, v16, v17, v18, v19, v20, v21, v22, v23, v24, v25, v26, v27])), (a0, .inl (ac, 38, .inl ng_11))]) hP hD [0, 2] [1] rfl rfl (by decide) (by decide) hk1 hFc hP1 hD1
        generalize H1 = H at hP hS ⊢
        have hP : va_P (dC, dI) vwCl [(t0, .inl (tc, 8, .inl tf)), (h0, .inr (7, [.ref a0, v1, v2, v3, v4, .ref t0, v6, v7, v8, v9, v10, v11, v12, v13, v14, v15, v16, v17, v18, v19, v20, v21, v22, v23, v24, v25, v26, v27])), (a0, .inl (ac, 38, .inl ng_11))] H := hP
        have hD : va_D A [(t0, .inl (tc, 8, .inl tf)), (h0, .inr (7, [.ref a0, v1, v2, v3, v4, .ref t0, v6, v7, v8, v9, v10, v11, v12, v13, v14, v15, v16, v17, v18, v19, v20, v21, v22, v23, v24, v25, v26, v27])), (a0, .inl (ac, 38, .inl ng_11))] := hD
        have hP9 := hP.sub (ws' := [(h0, .inr (7, [.ref a0, v1, v2, v3, v4, .ref t0, v6, v7, v8, v9, v10, v11, v12, v13, v14, v15, v16, v17, v18, v19, v20, v21, v22, v23, v24, v25, v26, v27])), (t0, .inl (tc, 8, .inl tf)), (a0, .inl (ac, 38, .inl ng_11))]) [1, 0, 2] rfl
        have hD9 := hD.sub (ws' := [(h0, .inr (7, [.ref a0, v1, v2, v3, v4, .ref t0, v6, v7, v8, v9, v10, v11, v12, v13, v14, v15, v16, v17, v18, v19, v20, v21, v22, v23, v24, v25, v26, v27])), (t0, .inl (tc, 8, .inl tf)), (a0, .inl (ac, 38, .inl ng_11))]) [1, 0, 2] (by decide) rfl
        have hK9 := hK.sub (tys' := [(tc, .int), (ac, .int)]) [0, 1] rfl
        exact W.iret (v := r_10) hx hb hr (fun t ht hW => ⟨⟨r_10, (), rfl, trivial, tf, ng_11, hq_12, (by first | omega | decide | (simp only [fa_lt, fa_le, fa_eq, and_true, true_and, and_false, false_and, not_true_eq_false, not_false_eq_true, li_0, li_1, li_2, li_3, li_4, li_5, li_6, li_7, li_8, li_9, li_10, li_12, li_15, li_16, li_20, li_30, li_34, li_38, li_40, li_63, li_64, li_65, li_78, li_120, li_1000, li_4000, li_10000, li_11077, li_255, li_65535, li_m1, li_m2, li_m1000000001, li_m1000000002, li_m1000000003, li_m1000000004, li_m1000000005, li_m1000000006, li_m1000000007, or_true, true_or, or_false, false_or, implies_true, true_implies, false_implies] <;> omega)), by rw [ht]; exact hP9, va_K.moved hW.alike hK9, hD9⟩, hS.F ht⟩) hS.2.2 dX9_shape_50
      · skip
        have tc_9 : n_8.toInt = 9 := (fa_eq _ _).mp c_9
        refine lv_aload_n hx hb dX9_shape_35 rfl (lv_at hl 0 rfl) ?_
        refine lv_ldc hx hb hown (hts _ (List.mem_of_getElem? (i := 20) rfl)) dX9_shape_36 ?_
        have hPc := hP.sub (ws' := [(h0, .inr (7, [.ref a0, v1, v2, v3, v4, .ref t0, v6, v7, v8, v9, v10, v11, v12, v13, v14, v15, v16, v17, v18, v19, v20, v21, v22, v23, v24, v25, v26, v27])), (t0, .inl (tc, 8, .inl tf))]) [0, 1] rfl
        have hKc := hK.sub (tys' := [(tc, .int)]) [0] rfl
        have hDc := hD.sub (ws' := [(h0, .inr (7, [.ref a0, v1, v2, v3, v4, .ref t0, v6, v7, v8, v9, v10, v11, v12, v13, v14, v15, v16, v17, v18, v19, v20, v21, v22, v23, v24, v25, v26, v27])), (t0, .inl (tc, 8, .inl tf))]) [0, 1] (by decide) rfl
        have hFc := va_free (wc := [(h0, .inr (7, [.ref a0, v1, v2, v3, v4, .ref t0, v6, v7, v8, v9, v10, v11, v12, v13, v14, v15, v16, v17, v18, v19, v20, v21, v22, v23, v24, v25, v26, v27])), (t0, .inl (tc, 8, .inl tf))]) hD hS hA [0, 1] rfl
        refine va_calli (va_runV (As := [.int (-1000000002)]) (rest := []) ⟨hx, hb, hml, hown, hts⟩ (mf_full l dC dI ad h0 (.ref a0) v1 v2 v3 v4 t0 v6 v7 v8 v9 v10 v11 v12 v13 v14 v15 v16 v17 v18 v19 v20 v21 v22 v23 v24 v25 v26 v27 tc tf s.heap.size ) (cwV 1 hts g_m_shape_mf_full_84 rfl rfl rfl (by decide +kernel) ⟨(Nat.le_of_ble_eq_true rfl), (Nat.le_of_ble_eq_true rfl)⟩) ⟨preM_blind, va_recv hKc hPc (ci := 7) (q0 := 0) rfl rfl, fun U hU hW => ⟨rfl, preM_at hU hW hPc hKc hDc hev⟩⟩ rfl rfl hl.1 rfl (lv_room (Nat.le_of_ble_eq_true rfl)) dX9_shape_38 ⟨(Nat.le_of_ble_eq_true rfl), (Nat.le_of_ble_eq_true rfl)⟩) hS (fun q _ h => hFc q h) hFc (fun r_15 u t H1 locs ht hvm hw hB hz1 hk1 hS => ?_)
        obtain ⟨tg_16, hP1, hK1, hD1⟩ := hB
        rw [ht] at hP1
        have hK1 := va_K.moved hvm.symm hK1
        obtain ⟨hP, hD⟩ := va_join (wr := [(a0, .inl (ac, 38, .inl nf))]) (w1 := [(h0, .inr (7, [.ref a0, v1, v2, v3, v4, .ref t0, v6, v7, v8, v9, v10, v11, v12, v13, v14, v15, v16, v17, v18, v19, v20, v21, v22, v23, v24, v25, v26, v27])), (t0, .inl (tc, 8, .inl tg_16))]) hP hD [0, 1] [2] rfl rfl (by decide) (by decide) hk1 hFc hP1 hD1
        generalize H1 = H at hP hS ⊢
        have hP : va_P (dC, dI) vwCl [(a0, .inl (ac, 38, .inl nf)), (h0, .inr (7, [.ref a0, v1, v2, v3, v4, .ref t0, v6, v7, v8, v9, v10, v11, v12, v13, v14, v15, v16, v17, v18, v19, v20, v21, v22, v23, v24, v25, v26, v27])), (t0, .inl (tc, 8, .inl tg_16))] H := hP
        have hD : va_D A [(a0, .inl (ac, 38, .inl nf)), (h0, .inr (7, [.ref a0, v1, v2, v3, v4, .ref t0, v6, v7, v8, v9, v10, v11, v12, v13, v14, v15, v16, v17, v18, v19, v20, v21, v22, v23, v24, v25, v26, v27])), (t0, .inl (tc, 8, .inl tg_16))] := hD
        subst hw
        refine lv_goto (tgt := 50) hx hb dX9_shape_41 (by decide) ?_
        have hP9 := hP.sub (ws' := [(h0, .inr (7, [.ref a0, v1, v2, v3, v4, .ref t0, v6, v7, v8, v9, v10, v11, v12, v13, v14, v15, v16, v17, v18, v19, v20, v21, v22, v23, v24, v25, v26, v27])), (t0, .inl (tc, 8, .inl tg_16)), (a0, .inl (ac, 38, .inl nf))]) [1, 2, 0] rfl
        have hD9 := hD.sub (ws' := [(h0, .inr (7, [.ref a0, v1, v2, v3, v4, .ref t0, v6, v7, v8, v9, v10, v11, v12, v13, v14, v15, v16, v17, v18, v19, v20, v21, v22, v23, v24, v25, v26, v27])), (t0, .inl (tc, 8, .inl tg_16)), (a0, .inl (ac, 38, .inl nf))]) [1, 2, 0] (by decide) rfl
        have hK9 := hK.sub (tys' := [(tc, .int), (ac, .int)]) [0, 1] rfl
        exact W.iret (v := ((-1000000002) : Int32)) hx hb hr (fun t ht hW => ⟨⟨((-1000000002) : Int32), (), rfl, trivial, tg_16, nf, hI, (by first | omega | decide | (simp only [fa_lt, fa_le, fa_eq, and_true, true_and, and_false, false_and, not_true_eq_false, not_false_eq_true, li_0, li_1, li_2, li_3, li_4, li_5, li_6, li_7, li_8, li_9, li_10, li_12, li_15, li_16, li_20, li_30, li_34, li_38, li_40, li_63, li_64, li_65, li_78, li_120, li_1000, li_4000, li_10000, li_11077, li_255, li_65535, li_m1, li_m2, li_m1000000001, li_m1000000002, li_m1000000003, li_m1000000004, li_m1000000005, li_m1000000006, li_m1000000007, or_true, true_or, or_false, false_or, implies_true, true_implies, false_implies] <;> omega)), by rw [ht]; exact hP9, va_K.moved hW.alike hK9, hD9⟩, hS.F ht⟩) hS.2.2 dX9_shape_50
    · skip
      have tc_6 : r_5.toInt = 0 := (fa_eq _ _).mp c_6
      refine lv_aload_n hx hb dX9_shape_17 rfl (lv_at hl 0 rfl) ?_
      refine lv_ldc hx hb hown (hts _ (List.mem_of_getElem? (i := 8) rfl)) dX9_shape_18 ?_
      have hPc := hP.sub (ws' := [(h0, .inr (7, [.ref a0, v1, v2, v3, v4, .ref t0, v6, v7, v8, v9, v10, v11, v12, v13, v14, v15, v16, v17, v18, v19, v20, v21, v22, v23, v24, v25, v26, v27])), (t0, .inl (tc, 8, .inl tf))]) [0, 1] rfl
      have hKc := hK.sub (tys' := [(tc, .int)]) [0] rfl
      have hDc := hD.sub (ws' := [(h0, .inr (7, [.ref a0, v1, v2, v3, v4, .ref t0, v6, v7, v8, v9, v10, v11, v12, v13, v14, v15, v16, v17, v18, v19, v20, v21, v22, v23, v24, v25, v26, v27])), (t0, .inl (tc, 8, .inl tf))]) [0, 1] (by decide) rfl
      have hFc := va_free (wc := [(h0, .inr (7, [.ref a0, v1, v2, v3, v4, .ref t0, v6, v7, v8, v9, v10, v11, v12, v13, v14, v15, v16, v17, v18, v19, v20, v21, v22, v23, v24, v25, v26, v27])), (t0, .inl (tc, 8, .inl tf))]) hD hS hA [0, 1] rfl
      refine va_calli (va_runV (As := [.int (-1000000001)]) (rest := []) ⟨hx, hb, hml, hown, hts⟩ (mf_beyond l dC dI ad h0 (.ref a0) v1 v2 v3 v4 t0 v6 v7 v8 v9 v10 v11 v12 v13 v14 v15 v16 v17 v18 v19 v20 v21 v22 v23 v24 v25 v26 v27 tc tf s.heap.size ) (cwV 1 hts g_m_shape_mf_beyond_84 rfl rfl rfl (by decide +kernel) ⟨(Nat.le_of_ble_eq_true rfl), (Nat.le_of_ble_eq_true rfl)⟩) ⟨preM_blind, va_recv hKc hPc (ci := 7) (q0 := 0) rfl rfl, fun U hU hW => ⟨rfl, preM_at hU hW hPc hKc hDc hev⟩⟩ rfl rfl hl.1 rfl (lv_room (Nat.le_of_ble_eq_true rfl)) dX9_shape_20 ⟨(Nat.le_of_ble_eq_true rfl), (Nat.le_of_ble_eq_true rfl)⟩) hS (fun q _ h => hFc q h) hFc (fun r_17 u t H1 locs ht hvm hw hB hz1 hk1 hS => ?_)
      obtain ⟨tg_18, hP1, hK1, hD1⟩ := hB
      rw [ht] at hP1
      have hK1 := va_K.moved hvm.symm hK1
      obtain ⟨hP, hD⟩ := va_join (wr := [(a0, .inl (ac, 38, .inl nf))]) (w1 := [(h0, .inr (7, [.ref a0, v1, v2, v3, v4, .ref t0, v6, v7, v8, v9, v10, v11, v12, v13, v14, v15, v16, v17, v18, v19, v20, v21, v22, v23, v24, v25, v26, v27])), (t0, .inl (tc, 8, .inl tg_18))]) hP hD [0, 1] [2] rfl rfl (by decide) (by decide) hk1 hFc hP1 hD1
      generalize H1 = H at hP hS ⊢
      have hP : va_P (dC, dI) vwCl [(a0, .inl (ac, 38, .inl nf)), (h0, .inr (7, [.ref a0, v1, v2, v3, v4, .ref t0, v6, v7, v8, v9, v10, v11, v12, v13, v14, v15, v16, v17, v18, v19, v20, v21, v22, v23, v24, v25, v26, v27])), (t0, .inl (tc, 8, .inl tg_18))] H := hP
      have hD : va_D A [(a0, .inl (ac, 38, .inl nf)), (h0, .inr (7, [.ref a0, v1, v2, v3, v4, .ref t0, v6, v7, v8, v9, v10, v11, v12, v13, v14, v15, v16, v17, v18, v19, v20, v21, v22, v23, v24, v25, v26, v27])), (t0, .inl (tc, 8, .inl tg_18))] := hD
      subst hw
      have hP9 := hP.sub (ws' := [(h0, .inr (7, [.ref a0, v1, v2, v3, v4, .ref t0, v6, v7, v8, v9, v10, v11, v12, v13, v14, v15, v16, v17, v18, v19, v20, v21, v22, v23, v24, v25, v26, v27])), (t0, .inl (tc, 8, .inl tg_18)), (a0, .inl (ac, 38, .inl nf))]) [1, 2, 0] rfl
      have hD9 := hD.sub (ws' := [(h0, .inr (7, [.ref a0, v1, v2, v3, v4, .ref t0, v6, v7, v8, v9, v10, v11, v12, v13, v14, v15, v16, v17, v18, v19, v20, v21, v22, v23, v24, v25, v26, v27])), (t0, .inl (tc, 8, .inl tg_18)), (a0, .inl (ac, 38, .inl nf))]) [1, 2, 0] (by decide) rfl
      have hK9 := hK.sub (tys' := [(tc, .int), (ac, .int)]) [0, 1] rfl
      exact W.iret (v := ((-1000000001) : Int32)) hx hb hr (fun t ht hW => ⟨⟨((-1000000001) : Int32), (), rfl, trivial, tg_18, nf, hI, (by first | omega | decide | (simp only [fa_lt, fa_le, fa_eq, and_true, true_and, and_false, false_and, not_true_eq_false, not_false_eq_true, li_0, li_1, li_2, li_3, li_4, li_5, li_6, li_7, li_8, li_9, li_10, li_12, li_15, li_16, li_20, li_30, li_34, li_38, li_40, li_63, li_64, li_65, li_78, li_120, li_1000, li_4000, li_10000, li_11077, li_255, li_65535, li_m1, li_m2, li_m1000000001, li_m1000000002, li_m1000000003, li_m1000000004, li_m1000000005, li_m1000000006, li_m1000000007, or_true, true_or, or_false, false_or, implies_true, true_implies, false_implies] <;> omega)), by rw [ht]; exact hP9, va_K.moved hW.alike hK9, hD9⟩, hS.F ht⟩) hS.2.2 dX9_shape_23

def w_m_of : List Cond := .code yX9_of cX9_of 3 (some .int) :: (([.methodLink RX9 93 yX9_isShape, .instanceMethod yX9_isShape, .selects RX9 yX9_isShape yX9_isShape, .initialized RX9, .code yX9_isShape cX9_isShape 2 (some .boolean), .fieldLink RX9 9 "LampShapesModel" "now" "[I", .methodLink RX9 75 yX9_within, .static yX9_within, .code yX9_within cX9_within 3 (some .boolean), .constant RX9 74 (-1000000001), .methodLink RX9 84 yX9_finding, .instanceMethod yX9_finding, .selects RX9 yX9_finding yX9_finding, .code yX9_finding cX9_finding 2 (some .int), .fieldLink RX9 23 "LampShapesModel" "found" "[I", .methodLink RX9 99 yX9_shapeIs, .instanceMethod yX9_shapeIs, .selects RX9 yX9_shapeIs yX9_shapeIs, .code yX9_shapeIs cX9_shapeIs 3 (some .int), .methodLink RX9 96 yX9_holdOf, .instanceMethod yX9_holdOf, .selects RX9 yX9_holdOf yX9_holdOf, .code yX9_holdOf cX9_holdOf 4 (some .int)] : List Cond) ++ wsX90)
set_option maxRecDepth 20000 in
theorem g_m_of_m_isShape_93 : GoodIn w_m_of (wsV RX9 93 RX9 yX9_isShape w_m_isShape) := goodIn_r _ [1, 2, 3, 4, 5, 6, 7, 8, 4, 9, 24, 25, 26, 27, 28, 29, 30, 31, 32, 33, 34, 35, 36, 37, 38, 39, 40, 41, 42, 43, 44, 45, 46, 47, 48, 49, 50, 51] rfl (by decide +kernel)
set_option maxRecDepth 20000 in
theorem g_m_of_mf_beyond_84 : GoodIn w_m_of (wsV RX9 84 RX9 yX9_finding w_mf_beyond) := goodIn_r _ [11, 12, 13, 4, 14, 15, 10, 24, 25, 26, 27, 28, 29, 30, 31, 32, 33, 34, 35, 36, 37, 38, 39, 40, 41, 42, 43, 44, 45, 46, 47, 48, 49, 50, 51] rfl (by decide +kernel)
set_option maxRecDepth 20000 in
theorem g_m_of_m_within_75 : GoodIn w_m_of (va_wsS RX9 75 yX9_within w_m_within) := goodIn_r _ [7, 8, 4, 9] rfl (by decide +kernel)
set_option maxRecDepth 20000 in
theorem g_m_of_m_shapeIs_99 : GoodIn w_m_of (wsV RX9 99 RX9 yX9_shapeIs w_m_shapeIs) := goodIn_r _ [16, 17, 18, 4, 19, 6, 24, 25, 26, 27, 28, 29, 30, 31, 32, 33, 34, 35, 36, 37, 38, 39, 40, 41, 42, 43, 44, 45, 46, 47, 48, 49, 50, 51] rfl (by decide +kernel)
set_option maxRecDepth 20000 in
theorem g_m_of_m_holdOf_96 : GoodIn w_m_of (wsV RX9 96 RX9 yX9_holdOf w_m_holdOf) := goodIn_r _ [20, 21, 22, 4, 23, 6, 24, 25, 26, 27, 28, 29, 30, 31, 32, 33, 34, 35, 36, 37, 38, 39, 40, 41, 42, 43, 44, 45, 46, 47, 48, 49, 50, 51] rfl (by decide +kernel)
set_option maxHeartbeats 4000000 in
set_option maxRecDepth 100000 in
theorem m_of (l : Launch) (dC : Nat → ClassId) (dI : Nat → Nat → Nat) (ad : Nat → Nat) (h0 : Nat) (a : Int32) (b : Int32) (a0 : Nat) (v1 : Value) (v2 : Value) (v3 : Value) (v4 : Value) (t0 : Nat) (v6 : Value) (v7 : Value) (v8 : Value) (v9 : Value) (v10 : Value) (v11 : Value) (v12 : Value) (v13 : Value) (v14 : Value) (v15 : Value) (v16 : Value) (v17 : Value) (v18 : Value) (v19 : Value) (v20 : Value) (v21 : Value) (v22 : Value) (v23 : Value) (v24 : Value) (v25 : Value) (v26 : Value) (v27 : Value) (tc : ClassId) (tf : Nat → Int32) (ac : ClassId) (nf : Nat → Int32) (sz : Nat) (hI : mI nf) : Met l yX9_of w_m_of ({ frames := 2, cells := 0, slots := 0, locals := 43 } : Room) (va_Pc [.ref h0, .int a, .int b] (preM dC dI ad [(tc, .int), (ac, .int)] [(h0, .inr (7, [.ref a0, v1, v2, v3, v4, .ref t0, v6, v7, v8, v9, v10, v11, v12, v13, v14, v15, v16, v17, v18, v19, v20, v21, v22, v23, v24, v25, v26, v27])), (t0, .inl (tc, 8, .inl tf)), (a0, .inl (ac, 38, .inl nf))] sz)) (va_Qi (fun (r : Int32) (_ : Unit) => True) (fun _ t => ∃ (tg : Nat → Int32), va_P (dC, dI) vwCl [(h0, .inr (7, [.ref a0, v1, v2, v3, v4, .ref t0, v6, v7, v8, v9, v10, v11, v12, v13, v14, v15, v16, v17, v18, v19, v20, v21, v22, v23, v24, v25, v26, v27])), (t0, .inl (tc, 8, .inl tg)), (a0, .inl (ac, 38, .inl nf))] t.heap ∧ va_K (dC, dI) vwCl [(tc, .int), (ac, .int)] t ∧ va_D (va_A [(h0, .inr (7, [.ref a0, v1, v2, v3, v4, .ref t0, v6, v7, v8, v9, v10, v11, v12, v13, v14, v15, v16, v17, v18, v19, v20, v21, v22, v23, v24, v25, v26, v27])), (t0, .inl (tc, 8, .inl tf)), (a0, .inl (ac, 38, .inl nf))] sz) [(h0, .inr (7, [.ref a0, v1, v2, v3, v4, .ref t0, v6, v7, v8, v9, v10, v11, v12, v13, v14, v15, v16, v17, v18, v19, v20, v21, v22, v23, v24, v25, v26, v27])), (t0, .inl (tc, 8, .inl tg)), (a0, .inl (ac, 38, .inl nf))]) (va_A [(h0, .inr (7, [.ref a0, v1, v2, v3, v4, .ref t0, v6, v7, v8, v9, v10, v11, v12, v13, v14, v15, v16, v17, v18, v19, v20, v21, v22, v23, v24, v25, v26, v27])), (t0, .inl (tc, 8, .inl tf)), (a0, .inl (ac, 38, .inl nf))] sz)) 0 0 (va_A [(h0, .inr (7, [.ref a0, v1, v2, v3, v4, .ref t0, v6, v7, v8, v9, v10, v11, v12, v13, v14, v15, v16, v17, v18, v19, v20, v21, v22, v23, v24, v25, v26, v27])), (t0, .inl (tc, 8, .inl tf)), (a0, .inl (ac, 38, .inl nf))] sz) := by
  refine Met.ofW (cc := cX9_of) (maxL := 3) (ret := (some .int)) (by decide) rfl ?_
  intro p e s m args below meth c s₁ B hml hv
  obtain ⟨rfl, hsz, hP, hK, hD0, hev⟩ := hv
  have hx := B.exec
  have hb := B.bytes
  have hr := B.returns
  have hts := atoms_spec (ws := w_m_of) B.pre
  have hown : s.vm.findClass RX9 = some m.cls := findClass_of_methodNamed B.named
  have hlocks := B.notSynchronized
  have inX9 : ∀ w ∈ wsX90, w ∈ w_m_of := fun w h => List.mem_cons_of_mem _ (List.mem_append_right _ h)
  subst hsz
  have hD := hD0.self (sz := s.heap.size)
  generalize hAe : va_A [(h0, .inr (7, [.ref a0, v1, v2, v3, v4, .ref t0, v6, v7, v8, v9, v10, v11, v12, v13, v14, v15, v16, v17, v18, v19, v20, v21, v22, v23, v24, v25, v26, v27])), (t0, .inl (tc, 8, .inl tf)), (a0, .inl (ac, 38, .inl nf))] s.heap.size = A at hD ⊢
  have hA : ∀ q : Nat, s.heap.size ≤ q → A q := fun q h => by rw [← hAe]; exact Or.inr h
  have hS : va_S A s.heap s.heap [] := va_S.rf
  have hP : va_P (dC, dI) vwCl [(h0, .inr (7, [.ref a0, v1, v2, v3, v4, .ref t0, v6, v7, v8, v9, v10, v11, v12, v13, v14, v15, v16, v17, v18, v19, v20, v21, v22, v23, v24, v25, v26, v27])), (t0, .inl (tc, 8, .inl tf)), (a0, .inl (ac, 38, .inl nf))] s.heap := hP
  have hl := lv_entry ([.ref h0, .int a, .int b]) (n := 3) (Nat.le_of_ble_eq_true rfl)
  rw [lg_entry_eq]
  generalize (lg_sl ([.ref h0, .int a, .int b]) ++ List.replicate (3 - (lg_sl ([.ref h0, .int a, .int b])).length) Slot.unset).toArray = ls at hl ⊢
  have hl : lv_has ls 3 [(0, .ref h0), (1, .int a), (2, .int b)] := hl
  refine lv_aload_n hx hb dX9_of_0 rfl (lv_at hl 0 rfl) ?_
  refine lv_iload_n hx hb dX9_of_1 rfl (lv_at hl 1 rfl) ?_
  have hPc := hP.sub (ws' := [(h0, .inr (7, [.ref a0, v1, v2, v3, v4, .ref t0, v6, v7, v8, v9, v10, v11, v12, v13, v14, v15, v16, v17, v18, v19, v20, v21, v22, v23, v24, v25, v26, v27])), (a0, .inl (ac, 38, .inl nf))]) [0, 2] rfl
  have hKc := hK.sub (tys' := [(ac, .int)]) [1] rfl
  refine vp_callSi (W.runV (As := [.int a]) (rest := []) ⟨hx, hb, hml, hown, hts⟩ (m_isShape l dC dI ad h0 a a0 v1 v2 v3 v4 (.ref t0) v6 v7 v8 v9 v10 v11 v12 v13 v14 v15 v16 v17 v18 v19 v20 v21 v22 v23 v24 v25 v26 v27 ac nf hI) (cwV 1 hts g_m_of_m_isShape_93 rfl rfl rfl (by decide +kernel) ⟨(Nat.le_of_ble_eq_true rfl), (Nat.le_of_ble_eq_true rfl)⟩) ⟨preS_blind, va_recv hKc hPc (ci := 7) (q0 := 0) rfl rfl, fun U hU hW => ⟨rfl, preS_at hU hW hPc hKc hev⟩⟩ rfl rfl hl.1 rfl (lv_room (Nat.le_of_ble_eq_true rfl)) dX9_of_2 ⟨(Nat.le_of_ble_eq_true rfl), (Nat.le_of_ble_eq_true rfl)⟩) (fun r_1 hw => ?_)
  have hr_1 : (r_1.toInt = 1 ∧ 0 ≤ a.toInt ∧ a.toInt < (nf 0).toInt ∧ a.toInt ≤ 8) ∨ r_1.toInt = 0 := hw
  refine lv_if_eq (tgt := 17) hx hb dX9_of_5 (by decide) (fun c_2 => ?_) (fun c_2 => ?_)
  · skip
    have tc_2 : r_1.toInt = 0 := (fa_eq _ _).mp c_2
    refine lv_aload_n hx hb dX9_of_17 rfl (lv_at hl 0 rfl) ?_
    refine lv_ldc hx hb hown (hts _ (List.mem_of_getElem? (i := 10) rfl)) dX9_of_18 ?_
    have hPc := hP.sub (ws' := [(h0, .inr (7, [.ref a0, v1, v2, v3, v4, .ref t0, v6, v7, v8, v9, v10, v11, v12, v13, v14, v15, v16, v17, v18, v19, v20, v21, v22, v23, v24, v25, v26, v27])), (t0, .inl (tc, 8, .inl tf))]) [0, 1] rfl
    have hKc := hK.sub (tys' := [(tc, .int)]) [0] rfl
    have hDc := hD.sub (ws' := [(h0, .inr (7, [.ref a0, v1, v2, v3, v4, .ref t0, v6, v7, v8, v9, v10, v11, v12, v13, v14, v15, v16, v17, v18, v19, v20, v21, v22, v23, v24, v25, v26, v27])), (t0, .inl (tc, 8, .inl tf))]) [0, 1] (by decide) rfl
    have hFc := va_free (wc := [(h0, .inr (7, [.ref a0, v1, v2, v3, v4, .ref t0, v6, v7, v8, v9, v10, v11, v12, v13, v14, v15, v16, v17, v18, v19, v20, v21, v22, v23, v24, v25, v26, v27])), (t0, .inl (tc, 8, .inl tf))]) hD hS hA [0, 1] rfl
    refine va_calli (va_runV (As := [.int (-1000000001)]) (rest := []) ⟨hx, hb, hml, hown, hts⟩ (mf_beyond l dC dI ad h0 (.ref a0) v1 v2 v3 v4 t0 v6 v7 v8 v9 v10 v11 v12 v13 v14 v15 v16 v17 v18 v19 v20 v21 v22 v23 v24 v25 v26 v27 tc tf s.heap.size ) (cwV 1 hts g_m_of_mf_beyond_84 rfl rfl rfl (by decide +kernel) ⟨(Nat.le_of_ble_eq_true rfl), (Nat.le_of_ble_eq_true rfl)⟩) ⟨preM_blind, va_recv hKc hPc (ci := 7) (q0 := 0) rfl rfl, fun U hU hW => ⟨rfl, preM_at hU hW hPc hKc hDc hev⟩⟩ rfl rfl hl.1 rfl (lv_room (Nat.le_of_ble_eq_true rfl)) dX9_of_20 ⟨(Nat.le_of_ble_eq_true rfl), (Nat.le_of_ble_eq_true rfl)⟩) hS (fun q _ h => hFc q h) hFc (fun r_3 u t H1 locs ht hvm hw hB hz1 hk1 hS => ?_)
    obtain ⟨tg_4, hP1, hK1, hD1⟩ := hB
    rw [ht] at hP1
    have hK1 := va_K.moved hvm.symm hK1
    obtain ⟨hP, hD⟩ := va_join (wr := [(a0, .inl (ac, 38, .inl nf))]) (w1 := [(h0, .inr (7, [.ref a0, v1, v2, v3, v4, .ref t0, v6, v7, v8, v9, v10, v11, v12, v13, v14, v15, v16, v17, v18, v19, v20, v21, v22, v23, v24, v25, v26, v27])), (t0, .inl (tc, 8, .inl tg_4))]) hP hD [0, 1] [2] rfl rfl (by decide) (by decide) hk1 hFc hP1 hD1
    generalize H1 = H at hP hS ⊢
    have hP : va_P (dC, dI) vwCl [(a0, .inl (ac, 38, .inl nf)), (h0, .inr (7, [.ref a0, v1, v2, v3, v4, .ref t0, v6, v7, v8, v9, v10, v11, v12, v13, v14, v15, v16, v17, v18, v19, v20, v21, v22, v23, v24, v25, v26, v27])), (t0, .inl (tc, 8, .inl tg_4))] H := hP
    have hD : va_D A [(a0, .inl (ac, 38, .inl nf)), (h0, .inr (7, [.ref a0, v1, v2, v3, v4, .ref t0, v6, v7, v8, v9, v10, v11, v12, v13, v14, v15, v16, v17, v18, v19, v20, v21, v22, v23, v24, v25, v26, v27])), (t0, .inl (tc, 8, .inl tg_4))] := hD
    subst hw
    have hP9 := hP.sub (ws' := [(h0, .inr (7, [.ref a0, v1, v2, v3, v4, .ref t0, v6, v7, v8, v9, v10, v11, v12, v13, v14, v15, v16, v17, v18, v19, v20, v21, v22, v23, v24, v25, v26, v27])), (t0, .inl (tc, 8, .inl tg_4)), (a0, .inl (ac, 38, .inl nf))]) [1, 2, 0] rfl
    have hD9 := hD.sub (ws' := [(h0, .inr (7, [.ref a0, v1, v2, v3, v4, .ref t0, v6, v7, v8, v9, v10, v11, v12, v13, v14, v15, v16, v17, v18, v19, v20, v21, v22, v23, v24, v25, v26, v27])), (t0, .inl (tc, 8, .inl tg_4)), (a0, .inl (ac, 38, .inl nf))]) [1, 2, 0] (by decide) rfl
    have hK9 := hK.sub (tys' := [(tc, .int), (ac, .int)]) [0, 1] rfl
    exact W.iret (v := ((-1000000001) : Int32)) hx hb hr (fun t ht hW => ⟨⟨((-1000000001) : Int32), (), rfl, trivial, tg_4, by rw [ht]; exact hP9, va_K.moved hW.alike hK9, hD9⟩, hS.F ht⟩) hS.2.2 dX9_of_23
  · skip
    have tc_2 : ¬ r_1.toInt = 0 := fun h => c_2 ((fa_eq _ _).mpr h)
    have i_5 : 0 ≤ a.toInt ∧ a.toInt < (nf 0).toInt ∧ a.toInt ≤ 8 := by omega
    refine lv_iload_n hx hb dX9_of_8 rfl (lv_at hl 2 rfl) ?_
    refine lv_iconst (v := 0) hx hb dX9_of_9 (by decide) ?_
    refine lv_iconst (v := 3) hx hb dX9_of_10 (by decide) ?_
    have hPc := hP.sub (ws' := []) [] rfl
    have hKc := hK.sub (tys' := []) [] rfl
    refine vp_callSi (W.runS (As := [.int b, .int 0, .int 3]) (rest := []) ⟨hx, hb, hml, hown, hts⟩ (m_within l dC dI ad b 0 3 ) (va_cwS 3 hts g_m_of_m_within_75 rfl rfl rfl (by decide +kernel) ⟨(Nat.le_of_ble_eq_true rfl), (Nat.le_of_ble_eq_true rfl)⟩) ⟨preS_blind, fun U hU hW => ⟨rfl, preS_at hU hW hPc hKc hev⟩⟩ rfl rfl hl.1 rfl (lv_room (Nat.le_of_ble_eq_true rfl)) dX9_of_11 ⟨(Nat.le_of_ble_eq_true rfl), (Nat.le_of_ble_eq_true rfl)⟩) (fun r_6 hw => ?_)
    have hr_6 : (r_6.toInt = 1 ∧ 0 ≤ b.toInt ∧ b.toInt ≤ 3) ∨ (r_6.toInt = 0 ∧ ¬ (0 ≤ b.toInt ∧ b.toInt ≤ 3)) := hw
    refine lv_if_ne (tgt := 24) hx hb dX9_of_14 (by decide) (fun c_7 => ?_) (fun c_7 => ?_)
    · skip
      have tc_7 : ¬ r_6.toInt = 0 := fun h => c_7 ((fa_eq _ _).mpr h)
      have i_8 : 0 ≤ b.toInt ∧ b.toInt ≤ 3 := by omega
      refine lv_iload_n hx hb dX9_of_24 rfl (lv_at hl 2 rfl) ?_
      refine lv_iconst (v := 3) hx hb dX9_of_25 (by decide) ?_
      refine lv_icmp_ne (tgt := 37) hx hb dX9_of_26 (by decide) (fun c_9 => ?_) (fun c_9 => ?_)
      · skip
        have tc_9 : ¬ b.toInt = 3 := fun h => c_9 ((fa_eq _ _).mpr h)
        refine lv_aload_n hx hb dX9_of_37 rfl (lv_at hl 0 rfl) ?_
        refine lv_iload_n hx hb dX9_of_38 rfl (lv_at hl 1 rfl) ?_
        refine lv_iload_n hx hb dX9_of_39 rfl (lv_at hl 2 rfl) ?_
        have hPc := hP.sub (ws' := [(h0, .inr (7, [.ref a0, v1, v2, v3, v4, .ref t0, v6, v7, v8, v9, v10, v11, v12, v13, v14, v15, v16, v17, v18, v19, v20, v21, v22, v23, v24, v25, v26, v27])), (a0, .inl (ac, 38, .inl nf))]) [0, 2] rfl
        have hKc := hK.sub (tys' := [(ac, .int)]) [1] rfl
        refine vp_callSi (W.runV (As := [.int a, .int b]) (rest := []) ⟨hx, hb, hml, hown, hts⟩ (m_shapeIs l dC dI ad h0 a b a0 v1 v2 v3 v4 (.ref t0) v6 v7 v8 v9 v10 v11 v12 v13 v14 v15 v16 v17 v18 v19 v20 v21 v22 v23 v24 v25 v26 v27 ac nf (by first | omega | decide | (simp only [fa_lt, fa_le, fa_eq, and_true, true_and, and_false, false_and, not_true_eq_false, not_false_eq_true, li_0, li_1, li_2, li_3, li_4, li_5, li_6, li_7, li_8, li_9, li_10, li_12, li_15, li_16, li_20, li_30, li_34, li_38, li_40, li_63, li_64, li_65, li_78, li_120, li_1000, li_4000, li_10000, li_11077, li_255, li_65535, li_m1, li_m2, li_m1000000001, li_m1000000002, li_m1000000003, li_m1000000004, li_m1000000005, li_m1000000006, li_m1000000007, or_true, true_or, or_false, false_or, implies_true, true_implies, false_implies] <;> omega)) (by first | omega | decide | (simp only [fa_lt, fa_le, fa_eq, and_true, true_and, and_false, false_and, not_true_eq_false, not_false_eq_true, li_0, li_1, li_2, li_3, li_4, li_5, li_6, li_7, li_8, li_9, li_10, li_12, li_15, li_16, li_20, li_30, li_34, li_38, li_40, li_63, li_64, li_65, li_78, li_120, li_1000, li_4000, li_10000, li_11077, li_255, li_65535, li_m1, li_m2, li_m1000000001, li_m1000000002, li_m1000000003, li_m1000000004, li_m1000000005, li_m1000000006, li_m1000000007, or_true, true_or, or_false, false_or, implies_true, true_implies, false_implies] <;> omega))) (cwV 2 hts g_m_of_m_shapeIs_99 rfl rfl rfl (by decide +kernel) ⟨(Nat.le_of_ble_eq_true rfl), (Nat.le_of_ble_eq_true rfl)⟩) ⟨preS_blind, va_recv hKc hPc (ci := 7) (q0 := 0) rfl rfl, fun U hU hW => ⟨rfl, preS_at hU hW hPc hKc hev⟩⟩ rfl rfl hl.1 rfl (lv_room (Nat.le_of_ble_eq_true rfl)) dX9_of_40 ⟨(Nat.le_of_ble_eq_true rfl), (Nat.le_of_ble_eq_true rfl)⟩) (fun r_10 hw => ?_)
        have hP9 := hP.sub (ws' := [(h0, .inr (7, [.ref a0, v1, v2, v3, v4, .ref t0, v6, v7, v8, v9, v10, v11, v12, v13, v14, v15, v16, v17, v18, v19, v20, v21, v22, v23, v24, v25, v26, v27])), (t0, .inl (tc, 8, .inl tf)), (a0, .inl (ac, 38, .inl nf))]) [0, 1, 2] rfl
        have hD9 := hD.sub (ws' := [(h0, .inr (7, [.ref a0, v1, v2, v3, v4, .ref t0, v6, v7, v8, v9, v10, v11, v12, v13, v14, v15, v16, v17, v18, v19, v20, v21, v22, v23, v24, v25, v26, v27])), (t0, .inl (tc, 8, .inl tf)), (a0, .inl (ac, 38, .inl nf))]) [0, 1, 2] (by decide) rfl
        have hK9 := hK.sub (tys' := [(tc, .int), (ac, .int)]) [0, 1] rfl
        exact W.iret (v := r_10) hx hb hr (fun t ht hW => ⟨⟨r_10, (), rfl, trivial, tf, by rw [ht]; exact hP9, va_K.moved hW.alike hK9, hD9⟩, hS.F ht⟩) hS.2.2 dX9_of_43
      · skip
        have tc_9 : b.toInt = 3 := (fa_eq _ _).mp c_9
        refine lv_aload_n hx hb dX9_of_29 rfl (lv_at hl 0 rfl) ?_
        refine lv_iload_n hx hb dX9_of_30 rfl (lv_at hl 1 rfl) ?_
        have hPc := hP.sub (ws' := [(h0, .inr (7, [.ref a0, v1, v2, v3, v4, .ref t0, v6, v7, v8, v9, v10, v11, v12, v13, v14, v15, v16, v17, v18, v19, v20, v21, v22, v23, v24, v25, v26, v27])), (a0, .inl (ac, 38, .inl nf))]) [0, 2] rfl
        have hKc := hK.sub (tys' := [(ac, .int)]) [1] rfl
        refine vp_callSi (W.runV (As := [.int a]) (rest := []) ⟨hx, hb, hml, hown, hts⟩ (m_holdOf l dC dI ad h0 a a0 v1 v2 v3 v4 (.ref t0) v6 v7 v8 v9 v10 v11 v12 v13 v14 v15 v16 v17 v18 v19 v20 v21 v22 v23 v24 v25 v26 v27 ac nf hI) (cwV 1 hts g_m_of_m_holdOf_96 rfl rfl rfl (by decide +kernel) ⟨(Nat.le_of_ble_eq_true rfl), (Nat.le_of_ble_eq_true rfl)⟩) ⟨preS_blind, va_recv hKc hPc (ci := 7) (q0 := 0) rfl rfl, fun U hU hW => ⟨rfl, preS_at hU hW hPc hKc hev⟩⟩ rfl rfl hl.1 rfl (lv_room (Nat.le_of_ble_eq_true rfl)) dX9_of_31 ⟨(Nat.le_of_ble_eq_true rfl), (Nat.le_of_ble_eq_true rfl)⟩) (fun r_11 hw => ?_)
        have hr_11 : (-1) ≤ r_11.toInt ∧ r_11.toInt ≤ 3 ∧ ((0 ≤ r_11.toInt ∧ hF nf a.toInt) ∨ (r_11.toInt = (-1) ∧ ¬ hF nf a.toInt)) := hw
        refine lv_goto (tgt := 43) hx hb dX9_of_34 (by decide) ?_
        have hP9 := hP.sub (ws' := [(h0, .inr (7, [.ref a0, v1, v2, v3, v4, .ref t0, v6, v7, v8, v9, v10, v11, v12, v13, v14, v15, v16, v17, v18, v19, v20, v21, v22, v23, v24, v25, v26, v27])), (t0, .inl (tc, 8, .inl tf)), (a0, .inl (ac, 38, .inl nf))]) [0, 1, 2] rfl
        have hD9 := hD.sub (ws' := [(h0, .inr (7, [.ref a0, v1, v2, v3, v4, .ref t0, v6, v7, v8, v9, v10, v11, v12, v13, v14, v15, v16, v17, v18, v19, v20, v21, v22, v23, v24, v25, v26, v27])), (t0, .inl (tc, 8, .inl tf)), (a0, .inl (ac, 38, .inl nf))]) [0, 1, 2] (by decide) rfl
        have hK9 := hK.sub (tys' := [(tc, .int), (ac, .int)]) [0, 1] rfl
        exact W.iret (v := r_11) hx hb hr (fun t ht hW => ⟨⟨r_11, (), rfl, trivial, tf, by rw [ht]; exact hP9, va_K.moved hW.alike hK9, hD9⟩, hS.F ht⟩) hS.2.2 dX9_of_43
    · skip
      have tc_7 : r_6.toInt = 0 := (fa_eq _ _).mp c_7
      refine lv_aload_n hx hb dX9_of_17 rfl (lv_at hl 0 rfl) ?_
      refine lv_ldc hx hb hown (hts _ (List.mem_of_getElem? (i := 10) rfl)) dX9_of_18 ?_
      have hPc := hP.sub (ws' := [(h0, .inr (7, [.ref a0, v1, v2, v3, v4, .ref t0, v6, v7, v8, v9, v10, v11, v12, v13, v14, v15, v16, v17, v18, v19, v20, v21, v22, v23, v24, v25, v26, v27])), (t0, .inl (tc, 8, .inl tf))]) [0, 1] rfl
      have hKc := hK.sub (tys' := [(tc, .int)]) [0] rfl
      have hDc := hD.sub (ws' := [(h0, .inr (7, [.ref a0, v1, v2, v3, v4, .ref t0, v6, v7, v8, v9, v10, v11, v12, v13, v14, v15, v16, v17, v18, v19, v20, v21, v22, v23, v24, v25, v26, v27])), (t0, .inl (tc, 8, .inl tf))]) [0, 1] (by decide) rfl
      have hFc := va_free (wc := [(h0, .inr (7, [.ref a0, v1, v2, v3, v4, .ref t0, v6, v7, v8, v9, v10, v11, v12, v13, v14, v15, v16, v17, v18, v19, v20, v21, v22, v23, v24, v25, v26, v27])), (t0, .inl (tc, 8, .inl tf))]) hD hS hA [0, 1] rfl
      refine va_calli (va_runV (As := [.int (-1000000001)]) (rest := []) ⟨hx, hb, hml, hown, hts⟩ (mf_beyond l dC dI ad h0 (.ref a0) v1 v2 v3 v4 t0 v6 v7 v8 v9 v10 v11 v12 v13 v14 v15 v16 v17 v18 v19 v20 v21 v22 v23 v24 v25 v26 v27 tc tf s.heap.size ) (cwV 1 hts g_m_of_mf_beyond_84 rfl rfl rfl (by decide +kernel) ⟨(Nat.le_of_ble_eq_true rfl), (Nat.le_of_ble_eq_true rfl)⟩) ⟨preM_blind, va_recv hKc hPc (ci := 7) (q0 := 0) rfl rfl, fun U hU hW => ⟨rfl, preM_at hU hW hPc hKc hDc hev⟩⟩ rfl rfl hl.1 rfl (lv_room (Nat.le_of_ble_eq_true rfl)) dX9_of_20 ⟨(Nat.le_of_ble_eq_true rfl), (Nat.le_of_ble_eq_true rfl)⟩) hS (fun q _ h => hFc q h) hFc (fun r_12 u t H1 locs ht hvm hw hB hz1 hk1 hS => ?_)
      obtain ⟨tg_13, hP1, hK1, hD1⟩ := hB
      rw [ht] at hP1
      have hK1 := va_K.moved hvm.symm hK1
      obtain ⟨hP, hD⟩ := va_join (wr := [(a0, .inl (ac, 38, .inl nf))]) (w1 := [(h0, .inr (7, [.ref a0, v1, v2, v3, v4, .ref t0, v6, v7, v8, v9, v10, v11, v12, v13, v14, v15, v16, v17, v18, v19, v20, v21, v22, v23, v24, v25, v26, v27])), (t0, .inl (tc, 8, .inl tg_13))]) hP hD [0, 1] [2] rfl rfl (by decide) (by decide) hk1 hFc hP1 hD1
      generalize H1 = H at hP hS ⊢
      have hP : va_P (dC, dI) vwCl [(a0, .inl (ac, 38, .inl nf)), (h0, .inr (7, [.ref a0, v1, v2, v3, v4, .ref t0, v6, v7, v8, v9, v10, v11, v12, v13, v14, v15, v16, v17, v18, v19, v20, v21, v22, v23, v24, v25, v26, v27])), (t0, .inl (tc, 8, .inl tg_13))] H := hP
      have hD : va_D A [(a0, .inl (ac, 38, .inl nf)), (h0, .inr (7, [.ref a0, v1, v2, v3, v4, .ref t0, v6, v7, v8, v9, v10, v11, v12, v13, v14, v15, v16, v17, v18, v19, v20, v21, v22, v23, v24, v25, v26, v27])), (t0, .inl (tc, 8, .inl tg_13))] := hD
      subst hw
      have hP9 := hP.sub (ws' := [(h0, .inr (7, [.ref a0, v1, v2, v3, v4, .ref t0, v6, v7, v8, v9, v10, v11, v12, v13, v14, v15, v16, v17, v18, v19, v20, v21, v22, v23, v24, v25, v26, v27])), (t0, .inl (tc, 8, .inl tg_13)), (a0, .inl (ac, 38, .inl nf))]) [1, 2, 0] rfl
      have hD9 := hD.sub (ws' := [(h0, .inr (7, [.ref a0, v1, v2, v3, v4, .ref t0, v6, v7, v8, v9, v10, v11, v12, v13, v14, v15, v16, v17, v18, v19, v20, v21, v22, v23, v24, v25, v26, v27])), (t0, .inl (tc, 8, .inl tg_13)), (a0, .inl (ac, 38, .inl nf))]) [1, 2, 0] (by decide) rfl
      have hK9 := hK.sub (tys' := [(tc, .int), (ac, .int)]) [0, 1] rfl
      exact W.iret (v := ((-1000000001) : Int32)) hx hb hr (fun t ht hW => ⟨⟨((-1000000001) : Int32), (), rfl, trivial, tg_13, by rw [ht]; exact hP9, va_K.moved hW.alike hK9, hD9⟩, hS.F ht⟩) hS.2.2 dX9_of_23

def w_m_cut : List Cond := .code yX9_cut cX9_cut 3 (some .int) :: (([.methodLink RX9 93 yX9_isShape, .instanceMethod yX9_isShape, .selects RX9 yX9_isShape yX9_isShape, .initialized RX9, .code yX9_isShape cX9_isShape 2 (some .boolean), .fieldLink RX9 9 "LampShapesModel" "now" "[I", .methodLink RX9 75 yX9_within, .static yX9_within, .code yX9_within cX9_within 3 (some .boolean), .constant RX9 74 (-1000000001), .methodLink RX9 84 yX9_finding, .instanceMethod yX9_finding, .selects RX9 yX9_finding yX9_finding, .code yX9_finding cX9_finding 2 (some .int), .fieldLink RX9 23 "LampShapesModel" "found" "[I", .constant RX9 83 (65535), .methodLink RX9 102 yX9_putIn, .instanceMethod yX9_putIn, .selects RX9 yX9_putIn yX9_putIn, .code yX9_putIn cX9_putIn 4 (some .int)] : List Cond) ++ wsX90)
set_option maxRecDepth 20000 in
theorem g_m_cut_m_isShape_93 : GoodIn w_m_cut (wsV RX9 93 RX9 yX9_isShape w_m_isShape) := goodIn_r _ [1, 2, 3, 4, 5, 6, 7, 8, 4, 9, 21, 22, 23, 24, 25, 26, 27, 28, 29, 30, 31, 32, 33, 34, 35, 36, 37, 38, 39, 40, 41, 42, 43, 44, 45, 46, 47, 48] rfl (by decide +kernel)
set_option maxRecDepth 20000 in
theorem g_m_cut_mf_beyond_84 : GoodIn w_m_cut (wsV RX9 84 RX9 yX9_finding w_mf_beyond) := goodIn_r _ [11, 12, 13, 4, 14, 15, 10, 21, 22, 23, 24, 25, 26, 27, 28, 29, 30, 31, 32, 33, 34, 35, 36, 37, 38, 39, 40, 41, 42, 43, 44, 45, 46, 47, 48] rfl (by decide +kernel)
set_option maxRecDepth 20000 in
theorem g_m_cut_m_within_75 : GoodIn w_m_cut (va_wsS RX9 75 yX9_within w_m_within) := goodIn_r _ [7, 8, 4, 9] rfl (by decide +kernel)
set_option maxRecDepth 20000 in
theorem g_m_cut_m_putIn_102 : GoodIn w_m_cut (wsV RX9 102 RX9 yX9_putIn w_m_putIn) := goodIn_r _ [17, 18, 19, 4, 20, 6, 21, 22, 23, 24, 25, 26, 27, 28, 29, 30, 31, 32, 33, 34, 35, 36, 37, 38, 39, 40, 41, 42, 43, 44, 45, 46, 47, 48] rfl (by decide +kernel)
set_option maxHeartbeats 4000000 in
set_option maxRecDepth 100000 in
theorem m_cut (l : Launch) (dC : Nat → ClassId) (dI : Nat → Nat → Nat) (ad : Nat → Nat) (h0 : Nat) (a : Int32) (b : Int32) (a0 : Nat) (v1 : Value) (v2 : Value) (v3 : Value) (v4 : Value) (t0 : Nat) (v6 : Value) (v7 : Value) (v8 : Value) (v9 : Value) (v10 : Value) (v11 : Value) (v12 : Value) (v13 : Value) (v14 : Value) (v15 : Value) (v16 : Value) (v17 : Value) (v18 : Value) (v19 : Value) (v20 : Value) (v21 : Value) (v22 : Value) (v23 : Value) (v24 : Value) (v25 : Value) (v26 : Value) (v27 : Value) (tc : ClassId) (tf : Nat → Int32) (ac : ClassId) (nf : Nat → Int32) (sz : Nat) (hI : mI nf) : Met l yX9_cut w_m_cut ({ frames := 2, cells := 0, slots := 0, locals := 43 } : Room) (va_Pc [.ref h0, .int a, .int b] (preM dC dI ad [(tc, .int), (ac, .int)] [(h0, .inr (7, [.ref a0, v1, v2, v3, v4, .ref t0, v6, v7, v8, v9, v10, v11, v12, v13, v14, v15, v16, v17, v18, v19, v20, v21, v22, v23, v24, v25, v26, v27])), (t0, .inl (tc, 8, .inl tf)), (a0, .inl (ac, 38, .inl nf))] sz)) (va_Qi (fun (r : Int32) (_ : Unit) => True) (fun _ t => ∃ (tg : Nat → Int32), ∃ (ng : Nat → Int32), (mI ng) ∧ ((ng 2).toInt = (nf 2).toInt) ∧ va_P (dC, dI) vwCl [(h0, .inr (7, [.ref a0, v1, v2, v3, v4, .ref t0, v6, v7, v8, v9, v10, v11, v12, v13, v14, v15, v16, v17, v18, v19, v20, v21, v22, v23, v24, v25, v26, v27])), (t0, .inl (tc, 8, .inl tg)), (a0, .inl (ac, 38, .inl ng))] t.heap ∧ va_K (dC, dI) vwCl [(tc, .int), (ac, .int)] t ∧ va_D (va_A [(h0, .inr (7, [.ref a0, v1, v2, v3, v4, .ref t0, v6, v7, v8, v9, v10, v11, v12, v13, v14, v15, v16, v17, v18, v19, v20, v21, v22, v23, v24, v25, v26, v27])), (t0, .inl (tc, 8, .inl tf)), (a0, .inl (ac, 38, .inl nf))] sz) [(h0, .inr (7, [.ref a0, v1, v2, v3, v4, .ref t0, v6, v7, v8, v9, v10, v11, v12, v13, v14, v15, v16, v17, v18, v19, v20, v21, v22, v23, v24, v25, v26, v27])), (t0, .inl (tc, 8, .inl tg)), (a0, .inl (ac, 38, .inl ng))]) (va_A [(h0, .inr (7, [.ref a0, v1, v2, v3, v4, .ref t0, v6, v7, v8, v9, v10, v11, v12, v13, v14, v15, v16, v17, v18, v19, v20, v21, v22, v23, v24, v25, v26, v27])), (t0, .inl (tc, 8, .inl tf)), (a0, .inl (ac, 38, .inl nf))] sz)) 0 0 (va_A [(h0, .inr (7, [.ref a0, v1, v2, v3, v4, .ref t0, v6, v7, v8, v9, v10, v11, v12, v13, v14, v15, v16, v17, v18, v19, v20, v21, v22, v23, v24, v25, v26, v27])), (t0, .inl (tc, 8, .inl tf)), (a0, .inl (ac, 38, .inl nf))] sz) := by
  refine Met.ofW (cc := cX9_cut) (maxL := 3) (ret := (some .int)) (by decide) rfl ?_
  intro p e s m args below meth c s₁ B hml hv
  obtain ⟨rfl, hsz, hP, hK, hD0, hev⟩ := hv
  have hx := B.exec
  have hb := B.bytes
  have hr := B.returns
  have hts := atoms_spec (ws := w_m_cut) B.pre
  have hown : s.vm.findClass RX9 = some m.cls := findClass_of_methodNamed B.named
  have hlocks := B.notSynchronized
  have inX9 : ∀ w ∈ wsX90, w ∈ w_m_cut := fun w h => List.mem_cons_of_mem _ (List.mem_append_right _ h)
  subst hsz
  have hD := hD0.self (sz := s.heap.size)
  generalize hAe : va_A [(h0, .inr (7, [.ref a0, v1, v2, v3, v4, .ref t0, v6, v7, v8, v9, v10, v11, v12, v13, v14, v15, v16, v17, v18, v19, v20, v21, v22, v23, v24, v25, v26, v27])), (t0, .inl (tc, 8, .inl tf)), (a0, .inl (ac, 38, .inl nf))] s.heap.size = A at hD ⊢
  have hA : ∀ q : Nat, s.heap.size ≤ q → A q := fun q h => by rw [← hAe]; exact Or.inr h
  have hS : va_S A s.heap s.heap [] := va_S.rf
  have hP : va_P (dC, dI) vwCl [(h0, .inr (7, [.ref a0, v1, v2, v3, v4, .ref t0, v6, v7, v8, v9, v10, v11, v12, v13, v14, v15, v16, v17, v18, v19, v20, v21, v22, v23, v24, v25, v26, v27])), (t0, .inl (tc, 8, .inl tf)), (a0, .inl (ac, 38, .inl nf))] s.heap := hP
  have hl := lv_entry ([.ref h0, .int a, .int b]) (n := 3) (Nat.le_of_ble_eq_true rfl)
  rw [lg_entry_eq]
  generalize (lg_sl ([.ref h0, .int a, .int b]) ++ List.replicate (3 - (lg_sl ([.ref h0, .int a, .int b])).length) Slot.unset).toArray = ls at hl ⊢
  have hl : lv_has ls 3 [(0, .ref h0), (1, .int a), (2, .int b)] := hl
  refine lv_aload_n hx hb dX9_cut_0 rfl (lv_at hl 0 rfl) ?_
  refine lv_iload_n hx hb dX9_cut_1 rfl (lv_at hl 1 rfl) ?_
  have hPc := hP.sub (ws' := [(h0, .inr (7, [.ref a0, v1, v2, v3, v4, .ref t0, v6, v7, v8, v9, v10, v11, v12, v13, v14, v15, v16, v17, v18, v19, v20, v21, v22, v23, v24, v25, v26, v27])), (a0, .inl (ac, 38, .inl nf))]) [0, 2] rfl
  have hKc := hK.sub (tys' := [(ac, .int)]) [1] rfl
  refine vp_callSi (W.runV (As := [.int a]) (rest := []) ⟨hx, hb, hml, hown, hts⟩ (m_isShape l dC dI ad h0 a a0 v1 v2 v3 v4 (.ref t0) v6 v7 v8 v9 v10 v11 v12 v13 v14 v15 v16 v17 v18 v19 v20 v21 v22 v23 v24 v25 v26 v27 ac nf hI) (cwV 1 hts g_m_cut_m_isShape_93 rfl rfl rfl (by decide +kernel) ⟨(Nat.le_of_ble_eq_true rfl), (Nat.le_of_ble_eq_true rfl)⟩) ⟨preS_blind, va_recv hKc hPc (ci := 7) (q0 := 0) rfl rfl, fun U hU hW => ⟨rfl, preS_at hU hW hPc hKc hev⟩⟩ rfl rfl hl.1 rfl (lv_room (Nat.le_of_ble_eq_true rfl)) dX9_cut_2 ⟨(Nat.le_of_ble_eq_true rfl), (Nat.le_of_ble_eq_true rfl)⟩) (fun r_1 hw => ?_)
  have hr_1 : (r_1.toInt = 1 ∧ 0 ≤ a.toInt ∧ a.toInt < (nf 0).toInt ∧ a.toInt ≤ 8) ∨ r_1.toInt = 0 := hw
  refine lv_if_eq (tgt := 33) hx hb dX9_cut_5 (by decide) (fun c_2 => ?_) (fun c_2 => ?_)
  · skip
    have tc_2 : r_1.toInt = 0 := (fa_eq _ _).mp c_2
    refine lv_aload_n hx hb dX9_cut_33 rfl (lv_at hl 0 rfl) ?_
    refine lv_ldc hx hb hown (hts _ (List.mem_of_getElem? (i := 10) rfl)) dX9_cut_34 ?_
    have hPc := hP.sub (ws' := [(h0, .inr (7, [.ref a0, v1, v2, v3, v4, .ref t0, v6, v7, v8, v9, v10, v11, v12, v13, v14, v15, v16, v17, v18, v19, v20, v21, v22, v23, v24, v25, v26, v27])), (t0, .inl (tc, 8, .inl tf))]) [0, 1] rfl
    have hKc := hK.sub (tys' := [(tc, .int)]) [0] rfl
    have hDc := hD.sub (ws' := [(h0, .inr (7, [.ref a0, v1, v2, v3, v4, .ref t0, v6, v7, v8, v9, v10, v11, v12, v13, v14, v15, v16, v17, v18, v19, v20, v21, v22, v23, v24, v25, v26, v27])), (t0, .inl (tc, 8, .inl tf))]) [0, 1] (by decide) rfl
    have hFc := va_free (wc := [(h0, .inr (7, [.ref a0, v1, v2, v3, v4, .ref t0, v6, v7, v8, v9, v10, v11, v12, v13, v14, v15, v16, v17, v18, v19, v20, v21, v22, v23, v24, v25, v26, v27])), (t0, .inl (tc, 8, .inl tf))]) hD hS hA [0, 1] rfl
    refine va_calli (va_runV (As := [.int (-1000000001)]) (rest := []) ⟨hx, hb, hml, hown, hts⟩ (mf_beyond l dC dI ad h0 (.ref a0) v1 v2 v3 v4 t0 v6 v7 v8 v9 v10 v11 v12 v13 v14 v15 v16 v17 v18 v19 v20 v21 v22 v23 v24 v25 v26 v27 tc tf s.heap.size ) (cwV 1 hts g_m_cut_mf_beyond_84 rfl rfl rfl (by decide +kernel) ⟨(Nat.le_of_ble_eq_true rfl), (Nat.le_of_ble_eq_true rfl)⟩) ⟨preM_blind, va_recv hKc hPc (ci := 7) (q0 := 0) rfl rfl, fun U hU hW => ⟨rfl, preM_at hU hW hPc hKc hDc hev⟩⟩ rfl rfl hl.1 rfl (lv_room (Nat.le_of_ble_eq_true rfl)) dX9_cut_36 ⟨(Nat.le_of_ble_eq_true rfl), (Nat.le_of_ble_eq_true rfl)⟩) hS (fun q _ h => hFc q h) hFc (fun r_3 u t H1 locs ht hvm hw hB hz1 hk1 hS => ?_)
    obtain ⟨tg_4, hP1, hK1, hD1⟩ := hB
    rw [ht] at hP1
    have hK1 := va_K.moved hvm.symm hK1
    obtain ⟨hP, hD⟩ := va_join (wr := [(a0, .inl (ac, 38, .inl nf))]) (w1 := [(h0, .inr (7, [.ref a0, v1, v2, v3, v4, .ref t0, v6, v7, v8, v9, v10, v11, v12, v13, v14, v15, v16, v17, v18, v19, v20, v21, v22, v23, v24, v25, v26, v27])), (t0, .inl (tc, 8, .inl tg_4))]) hP hD [0, 1] [2] rfl rfl (by decide) (by decide) hk1 hFc hP1 hD1
    generalize H1 = H at hP hS ⊢
    have hP : va_P (dC, dI) vwCl [(a0, .inl (ac, 38, .inl nf)), (h0, .inr (7, [.ref a0, v1, v2, v3, v4, .ref t0, v6, v7, v8, v9, v10, v11, v12, v13, v14, v15, v16, v17, v18, v19, v20, v21, v22, v23, v24, v25, v26, v27])), (t0, .inl (tc, 8, .inl tg_4))] H := hP
    have hD : va_D A [(a0, .inl (ac, 38, .inl nf)), (h0, .inr (7, [.ref a0, v1, v2, v3, v4, .ref t0, v6, v7, v8, v9, v10, v11, v12, v13, v14, v15, v16, v17, v18, v19, v20, v21, v22, v23, v24, v25, v26, v27])), (t0, .inl (tc, 8, .inl tg_4))] := hD
    subst hw
    have hP9 := hP.sub (ws' := [(h0, .inr (7, [.ref a0, v1, v2, v3, v4, .ref t0, v6, v7, v8, v9, v10, v11, v12, v13, v14, v15, v16, v17, v18, v19, v20, v21, v22, v23, v24, v25, v26, v27])), (t0, .inl (tc, 8, .inl tg_4)), (a0, .inl (ac, 38, .inl nf))]) [1, 2, 0] rfl
    have hD9 := hD.sub (ws' := [(h0, .inr (7, [.ref a0, v1, v2, v3, v4, .ref t0, v6, v7, v8, v9, v10, v11, v12, v13, v14, v15, v16, v17, v18, v19, v20, v21, v22, v23, v24, v25, v26, v27])), (t0, .inl (tc, 8, .inl tg_4)), (a0, .inl (ac, 38, .inl nf))]) [1, 2, 0] (by decide) rfl
    have hK9 := hK.sub (tys' := [(tc, .int), (ac, .int)]) [0, 1] rfl
    exact W.iret (v := ((-1000000001) : Int32)) hx hb hr (fun t ht hW => ⟨⟨((-1000000001) : Int32), (), rfl, trivial, tg_4, nf, hI, (by first | omega | decide | (simp only [fa_lt, fa_le, fa_eq, and_true, true_and, and_false, false_and, not_true_eq_false, not_false_eq_true, li_0, li_1, li_2, li_3, li_4, li_5, li_6, li_7, li_8, li_9, li_10, li_12, li_15, li_16, li_20, li_30, li_34, li_38, li_40, li_63, li_64, li_65, li_78, li_120, li_1000, li_4000, li_10000, li_11077, li_255, li_65535, li_m1, li_m2, li_m1000000001, li_m1000000002, li_m1000000003, li_m1000000004, li_m1000000005, li_m1000000006, li_m1000000007, or_true, true_or, or_false, false_or, implies_true, true_implies, false_implies] <;> omega)), by rw [ht]; exact hP9, va_K.moved hW.alike hK9, hD9⟩, hS.F ht⟩) hS.2.2 dX9_cut_39
  · skip
    have tc_2 : ¬ r_1.toInt = 0 := fun h => c_2 ((fa_eq _ _).mpr h)
    have i_5 : 0 ≤ a.toInt ∧ a.toInt < (nf 0).toInt ∧ a.toInt ≤ 8 := by omega
    refine lv_iload_n hx hb dX9_cut_8 rfl (lv_at hl 2 rfl) ?_
    refine lv_iconst (v := 0) hx hb dX9_cut_9 (by decide) ?_
    refine lv_ldc hx hb hown (hts _ (List.mem_of_getElem? (i := 16) rfl)) dX9_cut_10 ?_
    have hPc := hP.sub (ws' := []) [] rfl
    have hKc := hK.sub (tys' := []) [] rfl
    refine vp_callSi (W.runS (As := [.int b, .int 0, .int 65535]) (rest := []) ⟨hx, hb, hml, hown, hts⟩ (m_within l dC dI ad b 0 65535 ) (va_cwS 3 hts g_m_cut_m_within_75 rfl rfl rfl (by decide +kernel) ⟨(Nat.le_of_ble_eq_true rfl), (Nat.le_of_ble_eq_true rfl)⟩) ⟨preS_blind, fun U hU hW => ⟨rfl, preS_at hU hW hPc hKc hev⟩⟩ rfl rfl hl.1 rfl (lv_room (Nat.le_of_ble_eq_true rfl)) dX9_cut_12 ⟨(Nat.le_of_ble_eq_true rfl), (Nat.le_of_ble_eq_true rfl)⟩) (fun r_6 hw => ?_)
    have hr_6 : (r_6.toInt = 1 ∧ 0 ≤ b.toInt ∧ b.toInt ≤ 65535) ∨ (r_6.toInt = 0 ∧ ¬ (0 ≤ b.toInt ∧ b.toInt ≤ 65535)) := hw
    refine lv_if_eq (tgt := 33) hx hb dX9_cut_15 (by decide) (fun c_7 => ?_) (fun c_7 => ?_)
    · skip
      have tc_7 : r_6.toInt = 0 := (fa_eq _ _).mp c_7
      refine lv_aload_n hx hb dX9_cut_33 rfl (lv_at hl 0 rfl) ?_
      refine lv_ldc hx hb hown (hts _ (List.mem_of_getElem? (i := 10) rfl)) dX9_cut_34 ?_
      have hPc := hP.sub (ws' := [(h0, .inr (7, [.ref a0, v1, v2, v3, v4, .ref t0, v6, v7, v8, v9, v10, v11, v12, v13, v14, v15, v16, v17, v18, v19, v20, v21, v22, v23, v24, v25, v26, v27])), (t0, .inl (tc, 8, .inl tf))]) [0, 1] rfl
      have hKc := hK.sub (tys' := [(tc, .int)]) [0] rfl
      have hDc := hD.sub (ws' := [(h0, .inr (7, [.ref a0, v1, v2, v3, v4, .ref t0, v6, v7, v8, v9, v10, v11, v12, v13, v14, v15, v16, v17, v18, v19, v20, v21, v22, v23, v24, v25, v26, v27])), (t0, .inl (tc, 8, .inl tf))]) [0, 1] (by decide) rfl
      have hFc := va_free (wc := [(h0, .inr (7, [.ref a0, v1, v2, v3, v4, .ref t0, v6, v7, v8, v9, v10, v11, v12, v13, v14, v15, v16, v17, v18, v19, v20, v21, v22, v23, v24, v25, v26, v27])), (t0, .inl (tc, 8, .inl tf))]) hD hS hA [0, 1] rfl
      refine va_calli (va_runV (As := [.int (-1000000001)]) (rest := []) ⟨hx, hb, hml, hown, hts⟩ (mf_beyond l dC dI ad h0 (.ref a0) v1 v2 v3 v4 t0 v6 v7 v8 v9 v10 v11 v12 v13 v14 v15 v16 v17 v18 v19 v20 v21 v22 v23 v24 v25 v26 v27 tc tf s.heap.size ) (cwV 1 hts g_m_cut_mf_beyond_84 rfl rfl rfl (by decide +kernel) ⟨(Nat.le_of_ble_eq_true rfl), (Nat.le_of_ble_eq_true rfl)⟩) ⟨preM_blind, va_recv hKc hPc (ci := 7) (q0 := 0) rfl rfl, fun U hU hW => ⟨rfl, preM_at hU hW hPc hKc hDc hev⟩⟩ rfl rfl hl.1 rfl (lv_room (Nat.le_of_ble_eq_true rfl)) dX9_cut_36 ⟨(Nat.le_of_ble_eq_true rfl), (Nat.le_of_ble_eq_true rfl)⟩) hS (fun q _ h => hFc q h) hFc (fun r_8 u t H1 locs ht hvm hw hB hz1 hk1 hS => ?_)
      obtain ⟨tg_9, hP1, hK1, hD1⟩ := hB
      rw [ht] at hP1
      have hK1 := va_K.moved hvm.symm hK1
      obtain ⟨hP, hD⟩ := va_join (wr := [(a0, .inl (ac, 38, .inl nf))]) (w1 := [(h0, .inr (7, [.ref a0, v1, v2, v3, v4, .ref t0, v6, v7, v8, v9, v10, v11, v12, v13, v14, v15, v16, v17, v18, v19, v20, v21, v22, v23, v24, v25, v26, v27])), (t0, .inl (tc, 8, .inl tg_9))]) hP hD [0, 1] [2] rfl rfl (by decide) (by decide) hk1 hFc hP1 hD1
      generalize H1 = H at hP hS ⊢
      have hP : va_P (dC, dI) vwCl [(a0, .inl (ac, 38, .inl nf)), (h0, .inr (7, [.ref a0, v1, v2, v3, v4, .ref t0, v6, v7, v8, v9, v10, v11, v12, v13, v14, v15, v16, v17, v18, v19, v20, v21, v22, v23, v24, v25, v26, v27])), (t0, .inl (tc, 8, .inl tg_9))] H := hP
      have hD : va_D A [(a0, .inl (ac, 38, .inl nf)), (h0, .inr (7, [.ref a0, v1, v2, v3, v4, .ref t0, v6, v7, v8, v9, v10, v11, v12, v13, v14, v15, v16, v17, v18, v19, v20, v21, v22, v23, v24, v25, v26, v27])), (t0, .inl (tc, 8, .inl tg_9))] := hD
      subst hw
      have hP9 := hP.sub (ws' := [(h0, .inr (7, [.ref a0, v1, v2, v3, v4, .ref t0, v6, v7, v8, v9, v10, v11, v12, v13, v14, v15, v16, v17, v18, v19, v20, v21, v22, v23, v24, v25, v26, v27])), (t0, .inl (tc, 8, .inl tg_9)), (a0, .inl (ac, 38, .inl nf))]) [1, 2, 0] rfl
      have hD9 := hD.sub (ws' := [(h0, .inr (7, [.ref a0, v1, v2, v3, v4, .ref t0, v6, v7, v8, v9, v10, v11, v12, v13, v14, v15, v16, v17, v18, v19, v20, v21, v22, v23, v24, v25, v26, v27])), (t0, .inl (tc, 8, .inl tg_9)), (a0, .inl (ac, 38, .inl nf))]) [1, 2, 0] (by decide) rfl
      have hK9 := hK.sub (tys' := [(tc, .int), (ac, .int)]) [0, 1] rfl
      exact W.iret (v := ((-1000000001) : Int32)) hx hb hr (fun t ht hW => ⟨⟨((-1000000001) : Int32), (), rfl, trivial, tg_9, nf, hI, (by first | omega | decide | (simp only [fa_lt, fa_le, fa_eq, and_true, true_and, and_false, false_and, not_true_eq_false, not_false_eq_true, li_0, li_1, li_2, li_3, li_4, li_5, li_6, li_7, li_8, li_9, li_10, li_12, li_15, li_16, li_20, li_30, li_34, li_38, li_40, li_63, li_64, li_65, li_78, li_120, li_1000, li_4000, li_10000, li_11077, li_255, li_65535, li_m1, li_m2, li_m1000000001, li_m1000000002, li_m1000000003, li_m1000000004, li_m1000000005, li_m1000000006, li_m1000000007, or_true, true_or, or_false, false_or, implies_true, true_implies, false_implies] <;> omega)), by rw [ht]; exact hP9, va_K.moved hW.alike hK9, hD9⟩, hS.F ht⟩) hS.2.2 dX9_cut_39
    · skip
      have tc_7 : ¬ r_6.toInt = 0 := fun h => c_7 ((fa_eq _ _).mpr h)
      have i_10 : 0 ≤ b.toInt ∧ b.toInt ≤ 65535 := by omega
      refine lv_aload_n hx hb dX9_cut_18 rfl (lv_at hl 0 rfl) ?_
      refine lv_iconst (v := 3) hx hb dX9_cut_19 (by decide) ?_
      refine lv_iconst (v := 3) hx hb dX9_cut_20 (by decide) ?_
      refine lv_iload_n hx hb dX9_cut_21 rfl (lv_at hl 1 rfl) ?_
      refine lv_imul hx hb dX9_cut_22 ?_
      refine lv_topi (fun n_11 en_11 => ?_)
      have tn_11 : n_11.toInt = 3 * a.toInt := pp_mul en_11 rfl rfl (by omega) (by omega)
      clear en_11
      refine lv_iadd hx hb dX9_cut_23 ?_
      refine lv_topi (fun n_12 en_12 => ?_)
      have tn_12 : n_12.toInt = 3 + n_11.toInt := pp_add en_12 rfl rfl (by omega) (by omega)
      clear en_12
      refine lv_iconst (v := 1) hx hb dX9_cut_24 (by decide) ?_
      refine lv_iadd hx hb dX9_cut_25 ?_
      refine lv_topi (fun n_13 en_13 => ?_)
      have tn_13 : n_13.toInt = n_12.toInt + 1 := pp_add en_13 rfl rfl (by omega) (by omega)
      clear en_13
      refine lv_iload_n hx hb dX9_cut_26 rfl (lv_at hl 2 rfl) ?_
      have hPc := hP.sub (ws' := [(h0, .inr (7, [.ref a0, v1, v2, v3, v4, .ref t0, v6, v7, v8, v9, v10, v11, v12, v13, v14, v15, v16, v17, v18, v19, v20, v21, v22, v23, v24, v25, v26, v27])), (a0, .inl (ac, 38, .inl nf))]) [0, 2] rfl
      have hKc := hK.sub (tys' := [(ac, .int)]) [1] rfl
      have hDc := hD.sub (ws' := [(h0, .inr (7, [.ref a0, v1, v2, v3, v4, .ref t0, v6, v7, v8, v9, v10, v11, v12, v13, v14, v15, v16, v17, v18, v19, v20, v21, v22, v23, v24, v25, v26, v27])), (a0, .inl (ac, 38, .inl nf))]) [0, 2] (by decide) rfl
      have hFc := va_free (wc := [(h0, .inr (7, [.ref a0, v1, v2, v3, v4, .ref t0, v6, v7, v8, v9, v10, v11, v12, v13, v14, v15, v16, v17, v18, v19, v20, v21, v22, v23, v24, v25, v26, v27])), (a0, .inl (ac, 38, .inl nf))]) hD hS hA [0, 2] rfl
      refine va_calli (va_runV (As := [.int n_13, .int b]) (rest := []) ⟨hx, hb, hml, hown, hts⟩ (m_putIn l dC dI ad h0 n_13 b a0 v1 v2 v3 v4 (.ref t0) v6 v7 v8 v9 v10 v11 v12 v13 v14 v15 v16 v17 v18 v19 v20 v21 v22 v23 v24 v25 v26 v27 ac nf s.heap.size hI (by first | omega | decide | (simp only [fa_lt, fa_le, fa_eq, and_true, true_and, and_false, false_and, not_true_eq_false, not_false_eq_true, li_0, li_1, li_2, li_3, li_4, li_5, li_6, li_7, li_8, li_9, li_10, li_12, li_15, li_16, li_20, li_30, li_34, li_38, li_40, li_63, li_64, li_65, li_78, li_120, li_1000, li_4000, li_10000, li_11077, li_255, li_65535, li_m1, li_m2, li_m1000000001, li_m1000000002, li_m1000000003, li_m1000000004, li_m1000000005, li_m1000000006, li_m1000000007, or_true, true_or, or_false, false_or, implies_true, true_implies, false_implies] <;> omega))) (cwV 2 hts g_m_cut_m_putIn_102 rfl rfl rfl (by decide +kernel) ⟨(Nat.le_of_ble_eq_true rfl), (Nat.le_of_ble_eq_true rfl)⟩) ⟨preM_blind, va_recv hKc hPc (ci := 7) (q0 := 0) rfl rfl, fun U hU hW => ⟨rfl, preM_at hU hW hPc hKc hDc hev⟩⟩ rfl rfl hl.1 rfl (lv_room (Nat.le_of_ble_eq_true rfl)) dX9_cut_27 ⟨(Nat.le_of_ble_eq_true rfl), (Nat.le_of_ble_eq_true rfl)⟩) hS (fun q _ h => hFc q h) hFc (fun r_14 u t H1 locs ht hvm hw hB hz1 hk1 hS => ?_)
      obtain ⟨ng_15, hq_16, hq_17, hP1, hK1, hD1⟩ := hB
      rw [ht] at hP1
      have hK1 := va_K.moved hvm.symm hK1
      obtain ⟨hP, hD⟩ := va_join (wr := [(t0, .inl (tc, 8, .inl tf))]) (w1 := [(h0, .inr (7, [.ref a0, v1, v2, v3, v4, .ref t0, v6, v7, v8, v9, v10, v11, v12, v13, v14, v15, v16, v17, v18, v19, v20, v21, v22, v23, v24, v25, v26, v27])), (a0, .inl (ac, 38, .inl ng_15))]) hP hD [0, 2] [1] rfl rfl (by decide) (by decide) hk1 hFc hP1 hD1
      generalize H1 = H at hP hS ⊢
      have hP : va_P (dC, dI) vwCl [(t0, .inl (tc, 8, .inl tf)), (h0, .inr (7, [.ref a0, v1, v2, v3, v4, .ref t0, v6, v7, v8, v9, v10, v11, v12, v13, v14, v15, v16, v17, v18, v19, v20, v21, v22, v23, v24, v25, v26, v27])), (a0, .inl (ac, 38, .inl ng_15))] H := hP
      have hD : va_D A [(t0, .inl (tc, 8, .inl tf)), (h0, .inr (7, [.ref a0, v1, v2, v3, v4, .ref t0, v6, v7, v8, v9, v10, v11, v12, v13, v14, v15, v16, v17, v18, v19, v20, v21, v22, v23, v24, v25, v26, v27])), (a0, .inl (ac, 38, .inl ng_15))] := hD
      refine lv_goto (tgt := 39) hx hb dX9_cut_30 (by decide) ?_
      have hP9 := hP.sub (ws' := [(h0, .inr (7, [.ref a0, v1, v2, v3, v4, .ref t0, v6, v7, v8, v9, v10, v11, v12, v13, v14, v15, v16, v17, v18, v19, v20, v21, v22, v23, v24, v25, v26, v27])), (t0, .inl (tc, 8, .inl tf)), (a0, .inl (ac, 38, .inl ng_15))]) [1, 0, 2] rfl
      have hD9 := hD.sub (ws' := [(h0, .inr (7, [.ref a0, v1, v2, v3, v4, .ref t0, v6, v7, v8, v9, v10, v11, v12, v13, v14, v15, v16, v17, v18, v19, v20, v21, v22, v23, v24, v25, v26, v27])), (t0, .inl (tc, 8, .inl tf)), (a0, .inl (ac, 38, .inl ng_15))]) [1, 0, 2] (by decide) rfl
      have hK9 := hK.sub (tys' := [(tc, .int), (ac, .int)]) [0, 1] rfl
      exact W.iret (v := r_14) hx hb hr (fun t ht hW => ⟨⟨r_14, (), rfl, trivial, tf, ng_15, hq_16, (by first | omega | decide | (simp only [fa_lt, fa_le, fa_eq, and_true, true_and, and_false, false_and, not_true_eq_false, not_false_eq_true, li_0, li_1, li_2, li_3, li_4, li_5, li_6, li_7, li_8, li_9, li_10, li_12, li_15, li_16, li_20, li_30, li_34, li_38, li_40, li_63, li_64, li_65, li_78, li_120, li_1000, li_4000, li_10000, li_11077, li_255, li_65535, li_m1, li_m2, li_m1000000001, li_m1000000002, li_m1000000003, li_m1000000004, li_m1000000005, li_m1000000006, li_m1000000007, or_true, true_or, or_false, false_or, implies_true, true_implies, false_implies] <;> omega)), by rw [ht]; exact hP9, va_K.moved hW.alike hK9, hD9⟩, hS.F ht⟩) hS.2.2 dX9_cut_39

def w_m_tear : List Cond := .code yX9_tear cX9_tear 4 (some .int) :: (([.methodLink RX9 93 yX9_isShape, .instanceMethod yX9_isShape, .selects RX9 yX9_isShape yX9_isShape, .initialized RX9, .code yX9_isShape cX9_isShape 2 (some .boolean), .fieldLink RX9 9 "LampShapesModel" "now" "[I", .methodLink RX9 75 yX9_within, .static yX9_within, .code yX9_within cX9_within 3 (some .boolean), .methodLink RX9 102 yX9_putIn, .instanceMethod yX9_putIn, .selects RX9 yX9_putIn yX9_putIn, .code yX9_putIn cX9_putIn 4 (some .int), .constant RX9 74 (-1000000001), .methodLink RX9 84 yX9_finding, .instanceMethod yX9_finding, .selects RX9 yX9_finding yX9_finding, .code yX9_finding cX9_finding 2 (some .int), .fieldLink RX9 23 "LampShapesModel" "found" "[I"] : List Cond) ++ wsX90)
set_option maxRecDepth 20000 in
theorem g_m_tear_m_isShape_93 : GoodIn w_m_tear (wsV RX9 93 RX9 yX9_isShape w_m_isShape) := goodIn_r _ [1, 2, 3, 4, 5, 6, 7, 8, 4, 9, 20, 21, 22, 23, 24, 25, 26, 27, 28, 29, 30, 31, 32, 33, 34, 35, 36, 37, 38, 39, 40, 41, 42, 43, 44, 45, 46, 47] rfl (by decide +kernel)
set_option maxRecDepth 20000 in
theorem g_m_tear_m_putIn_102 : GoodIn w_m_tear (wsV RX9 102 RX9 yX9_putIn w_m_putIn) := goodIn_r _ [10, 11, 12, 4, 13, 6, 20, 21, 22, 23, 24, 25, 26, 27, 28, 29, 30, 31, 32, 33, 34, 35, 36, 37, 38, 39, 40, 41, 42, 43, 44, 45, 46, 47] rfl (by decide +kernel)
set_option maxRecDepth 20000 in
theorem g_m_tear_mf_beyond_84 : GoodIn w_m_tear (wsV RX9 84 RX9 yX9_finding w_mf_beyond) := goodIn_r _ [15, 16, 17, 4, 18, 19, 14, 20, 21, 22, 23, 24, 25, 26, 27, 28, 29, 30, 31, 32, 33, 34, 35, 36, 37, 38, 39, 40, 41, 42, 43, 44, 45, 46, 47] rfl (by decide +kernel)
set_option maxHeartbeats 4000000 in
set_option maxRecDepth 100000 in
theorem m_tear (l : Launch) (dC : Nat → ClassId) (dI : Nat → Nat → Nat) (ad : Nat → Nat) (h0 : Nat) (a : Int32) (b : Int32) (a0 : Nat) (v1 : Value) (v2 : Value) (v3 : Value) (v4 : Value) (t0 : Nat) (v6 : Value) (v7 : Value) (v8 : Value) (v9 : Value) (v10 : Value) (v11 : Value) (v12 : Value) (v13 : Value) (v14 : Value) (v15 : Value) (v16 : Value) (v17 : Value) (v18 : Value) (v19 : Value) (v20 : Value) (v21 : Value) (v22 : Value) (v23 : Value) (v24 : Value) (v25 : Value) (v26 : Value) (v27 : Value) (tc : ClassId) (tf : Nat → Int32) (ac : ClassId) (nf : Nat → Int32) (sz : Nat) (hI : mI nf) : Met l yX9_tear w_m_tear ({ frames := 2, cells := 0, slots := 0, locals := 43 } : Room) (va_Pc [.ref h0, .int a, .int b] (preM dC dI ad [(tc, .int), (ac, .int)] [(h0, .inr (7, [.ref a0, v1, v2, v3, v4, .ref t0, v6, v7, v8, v9, v10, v11, v12, v13, v14, v15, v16, v17, v18, v19, v20, v21, v22, v23, v24, v25, v26, v27])), (t0, .inl (tc, 8, .inl tf)), (a0, .inl (ac, 38, .inl nf))] sz)) (va_Qi (fun (r : Int32) (_ : Unit) => True) (fun _ t => ∃ (tg : Nat → Int32), ∃ (ng : Nat → Int32), (mI ng) ∧ ((ng 2).toInt = (nf 2).toInt) ∧ va_P (dC, dI) vwCl [(h0, .inr (7, [.ref a0, v1, v2, v3, v4, .ref t0, v6, v7, v8, v9, v10, v11, v12, v13, v14, v15, v16, v17, v18, v19, v20, v21, v22, v23, v24, v25, v26, v27])), (t0, .inl (tc, 8, .inl tg)), (a0, .inl (ac, 38, .inl ng))] t.heap ∧ va_K (dC, dI) vwCl [(tc, .int), (ac, .int)] t ∧ va_D (va_A [(h0, .inr (7, [.ref a0, v1, v2, v3, v4, .ref t0, v6, v7, v8, v9, v10, v11, v12, v13, v14, v15, v16, v17, v18, v19, v20, v21, v22, v23, v24, v25, v26, v27])), (t0, .inl (tc, 8, .inl tf)), (a0, .inl (ac, 38, .inl nf))] sz) [(h0, .inr (7, [.ref a0, v1, v2, v3, v4, .ref t0, v6, v7, v8, v9, v10, v11, v12, v13, v14, v15, v16, v17, v18, v19, v20, v21, v22, v23, v24, v25, v26, v27])), (t0, .inl (tc, 8, .inl tg)), (a0, .inl (ac, 38, .inl ng))]) (va_A [(h0, .inr (7, [.ref a0, v1, v2, v3, v4, .ref t0, v6, v7, v8, v9, v10, v11, v12, v13, v14, v15, v16, v17, v18, v19, v20, v21, v22, v23, v24, v25, v26, v27])), (t0, .inl (tc, 8, .inl tf)), (a0, .inl (ac, 38, .inl nf))] sz)) 0 0 (va_A [(h0, .inr (7, [.ref a0, v1, v2, v3, v4, .ref t0, v6, v7, v8, v9, v10, v11, v12, v13, v14, v15, v16, v17, v18, v19, v20, v21, v22, v23, v24, v25, v26, v27])), (t0, .inl (tc, 8, .inl tf)), (a0, .inl (ac, 38, .inl nf))] sz) := by
  refine Met.ofW (cc := cX9_tear) (maxL := 4) (ret := (some .int)) (by decide) rfl ?_
  intro p e s m args below meth c s₁ B hml hv
  obtain ⟨rfl, hsz, hP, hK, hD0, hev⟩ := hv
  have hx := B.exec
  have hb := B.bytes
  have hr := B.returns
  have hts := atoms_spec (ws := w_m_tear) B.pre
  have hown : s.vm.findClass RX9 = some m.cls := findClass_of_methodNamed B.named
  have hlocks := B.notSynchronized
  have inX9 : ∀ w ∈ wsX90, w ∈ w_m_tear := fun w h => List.mem_cons_of_mem _ (List.mem_append_right _ h)
  subst hsz
  have hD := hD0.self (sz := s.heap.size)
  generalize hAe : va_A [(h0, .inr (7, [.ref a0, v1, v2, v3, v4, .ref t0, v6, v7, v8, v9, v10, v11, v12, v13, v14, v15, v16, v17, v18, v19, v20, v21, v22, v23, v24, v25, v26, v27])), (t0, .inl (tc, 8, .inl tf)), (a0, .inl (ac, 38, .inl nf))] s.heap.size = A at hD ⊢
  have hA : ∀ q : Nat, s.heap.size ≤ q → A q := fun q h => by rw [← hAe]; exact Or.inr h
  have hS : va_S A s.heap s.heap [] := va_S.rf
  have hP : va_P (dC, dI) vwCl [(h0, .inr (7, [.ref a0, v1, v2, v3, v4, .ref t0, v6, v7, v8, v9, v10, v11, v12, v13, v14, v15, v16, v17, v18, v19, v20, v21, v22, v23, v24, v25, v26, v27])), (t0, .inl (tc, 8, .inl tf)), (a0, .inl (ac, 38, .inl nf))] s.heap := hP
  have hl := lv_entry ([.ref h0, .int a, .int b]) (n := 4) (Nat.le_of_ble_eq_true rfl)
  rw [lg_entry_eq]
  generalize (lg_sl ([.ref h0, .int a, .int b]) ++ List.replicate (4 - (lg_sl ([.ref h0, .int a, .int b])).length) Slot.unset).toArray = ls at hl ⊢
  have hl : lv_has ls 4 [(0, .ref h0), (1, .int a), (2, .int b)] := hl
  refine lv_aload_n hx hb dX9_tear_0 rfl (lv_at hl 0 rfl) ?_
  refine lv_iload_n hx hb dX9_tear_1 rfl (lv_at hl 1 rfl) ?_
  have hPc := hP.sub (ws' := [(h0, .inr (7, [.ref a0, v1, v2, v3, v4, .ref t0, v6, v7, v8, v9, v10, v11, v12, v13, v14, v15, v16, v17, v18, v19, v20, v21, v22, v23, v24, v25, v26, v27])), (a0, .inl (ac, 38, .inl nf))]) [0, 2] rfl
  have hKc := hK.sub (tys' := [(ac, .int)]) [1] rfl
  refine vp_callSi (W.runV (As := [.int a]) (rest := []) ⟨hx, hb, hml, hown, hts⟩ (m_isShape l dC dI ad h0 a a0 v1 v2 v3 v4 (.ref t0) v6 v7 v8 v9 v10 v11 v12 v13 v14 v15 v16 v17 v18 v19 v20 v21 v22 v23 v24 v25 v26 v27 ac nf hI) (cwV 1 hts g_m_tear_m_isShape_93 rfl rfl rfl (by decide +kernel) ⟨(Nat.le_of_ble_eq_true rfl), (Nat.le_of_ble_eq_true rfl)⟩) ⟨preS_blind, va_recv hKc hPc (ci := 7) (q0 := 0) rfl rfl, fun U hU hW => ⟨rfl, preS_at hU hW hPc hKc hev⟩⟩ rfl rfl hl.1 rfl (lv_room (Nat.le_of_ble_eq_true rfl)) dX9_tear_2 ⟨(Nat.le_of_ble_eq_true rfl), (Nat.le_of_ble_eq_true rfl)⟩) (fun r_1 hw => ?_)
  have hr_1 : (r_1.toInt = 1 ∧ 0 ≤ a.toInt ∧ a.toInt < (nf 0).toInt ∧ a.toInt ≤ 8) ∨ r_1.toInt = 0 := hw
  refine lv_if_ne (tgt := 15) hx hb dX9_tear_5 (by decide) (fun c_2 => ?_) (fun c_2 => ?_)
  · skip
    have tc_2 : ¬ r_1.toInt = 0 := fun h => c_2 ((fa_eq _ _).mpr h)
    have i_3 : 0 ≤ a.toInt ∧ a.toInt < (nf 0).toInt ∧ a.toInt ≤ 8 := by omega
    refine lv_iload_n hx hb dX9_tear_15 rfl (lv_at hl 2 rfl) ?_
    refine lv_if_eq (tgt := 23) hx hb dX9_tear_16 (by decide) (fun c_4 => ?_) (fun c_4 => ?_)
    · skip
      have tc_4 : b.toInt = 0 := (fa_eq _ _).mp c_4
      refine lv_iconst (v := 0) hx hb dX9_tear_23 (by decide) ?_
      refine lv_istore_n (lv' := [(3, .int 0), (0, .ref h0), (1, .int a), (2, .int b)]) hx hb dX9_tear_24 rfl hl (by decide) rfl (fun ls hl => ?_)
      refine lv_aload_n hx hb dX9_tear_25 rfl (lv_at hl 1 rfl) ?_
      refine lv_iconst (v := 3) hx hb dX9_tear_26 (by decide) ?_
      refine lv_iconst (v := 3) hx hb dX9_tear_27 (by decide) ?_
      refine lv_iload_n hx hb dX9_tear_28 rfl (lv_at hl 2 rfl) ?_
      refine lv_imul hx hb dX9_tear_29 ?_
      refine lv_topi (fun n_5 en_5 => ?_)
      have tn_5 : n_5.toInt = 3 * a.toInt := pp_mul en_5 rfl rfl (by omega) (by omega)
      clear en_5
      refine lv_iadd hx hb dX9_tear_30 ?_
      refine lv_topi (fun n_6 en_6 => ?_)
      have tn_6 : n_6.toInt = 3 + n_5.toInt := pp_add en_6 rfl rfl (by omega) (by omega)
      clear en_6
      refine lv_iconst (v := 2) hx hb dX9_tear_31 (by decide) ?_
      refine lv_iadd hx hb dX9_tear_32 ?_
      refine lv_topi (fun n_7 en_7 => ?_)
      have tn_7 : n_7.toInt = n_6.toInt + 2 := pp_add en_7 rfl rfl (by omega) (by omega)
      clear en_7
      refine lv_iload_n hx hb dX9_tear_33 rfl (lv_at hl 0 rfl) ?_
      have hPc := hP.sub (ws' := [(h0, .inr (7, [.ref a0, v1, v2, v3, v4, .ref t0, v6, v7, v8, v9, v10, v11, v12, v13, v14, v15, v16, v17, v18, v19, v20, v21, v22, v23, v24, v25, v26, v27])), (a0, .inl (ac, 38, .inl nf))]) [0, 2] rfl
      have hKc := hK.sub (tys' := [(ac, .int)]) [1] rfl
      have hDc := hD.sub (ws' := [(h0, .inr (7, [.ref a0, v1, v2, v3, v4, .ref t0, v6, v7, v8, v9, v10, v11, v12, v13, v14, v15, v16, v17, v18, v19, v20, v21, v22, v23, v24, v25, v26, v27])), (a0, .inl (ac, 38, .inl nf))]) [0, 2] (by decide) rfl
      have hFc := va_free (wc := [(h0, .inr (7, [.ref a0, v1, v2, v3, v4, .ref t0, v6, v7, v8, v9, v10, v11, v12, v13, v14, v15, v16, v17, v18, v19, v20, v21, v22, v23, v24, v25, v26, v27])), (a0, .inl (ac, 38, .inl nf))]) hD hS hA [0, 2] rfl
      refine va_calli (va_runV (As := [.int n_7, .int 0]) (rest := []) ⟨hx, hb, hml, hown, hts⟩ (m_putIn l dC dI ad h0 n_7 0 a0 v1 v2 v3 v4 (.ref t0) v6 v7 v8 v9 v10 v11 v12 v13 v14 v15 v16 v17 v18 v19 v20 v21 v22 v23 v24 v25 v26 v27 ac nf s.heap.size hI (by first | omega | decide | (simp only [fa_lt, fa_le, fa_eq, and_true, true_and, and_false, false_and, not_true_eq_false, not_false_eq_true, li_0, li_1, li_2, li_3, li_4, li_5, li_6, li_7, li_8, li_9, li_10, li_12, li_15, li_16, li_20, li_30, li_34, li_38, li_40, li_63, li_64, li_65, li_78, li_120, li_1000, li_4000, li_10000, li_11077, li_255, li_65535, li_m1, li_m2, li_m1000000001, li_m1000000002, li_m1000000003, li_m1000000004, li_m1000000005, li_m1000000006, li_m1000000007, or_true, true_or, or_false, false_or, implies_true, true_implies, false_implies] <;> omega))) (cwV 2 hts g_m_tear_m_putIn_102 rfl rfl rfl (by decide +kernel) ⟨(Nat.le_of_ble_eq_true rfl), (Nat.le_of_ble_eq_true rfl)⟩) ⟨preM_blind, va_recv hKc hPc (ci := 7) (q0 := 0) rfl rfl, fun U hU hW => ⟨rfl, preM_at hU hW hPc hKc hDc hev⟩⟩ rfl rfl hl.1 rfl (lv_room (Nat.le_of_ble_eq_true rfl)) dX9_tear_34 ⟨(Nat.le_of_ble_eq_true rfl), (Nat.le_of_ble_eq_true rfl)⟩) hS (fun q _ h => hFc q h) hFc (fun r_8 u t H1 locs ht hvm hw hB hz1 hk1 hS => ?_)
      obtain ⟨ng_9, hq_10, hq_11, hP1, hK1, hD1⟩ := hB
      rw [ht] at hP1
      have hK1 := va_K.moved hvm.symm hK1
      obtain ⟨hP, hD⟩ := va_join (wr := [(t0, .inl (tc, 8, .inl tf))]) (w1 := [(h0, .inr (7, [.ref a0, v1, v2, v3, v4, .ref t0, v6, v7, v8, v9, v10, v11, v12, v13, v14, v15, v16, v17, v18, v19, v20, v21, v22, v23, v24, v25, v26, v27])), (a0, .inl (ac, 38, .inl ng_9))]) hP hD [0, 2] [1] rfl rfl (by decide) (by decide) hk1 hFc hP1 hD1
      generalize H1 = H at hP hS ⊢
      have hP : va_P (dC, dI) vwCl [(t0, .inl (tc, 8, .inl tf)), (h0, .inr (7, [.ref a0, v1, v2, v3, v4, .ref t0, v6, v7, v8, v9, v10, v11, v12, v13, v14, v15, v16, v17, v18, v19, v20, v21, v22, v23, v24, v25, v26, v27])), (a0, .inl (ac, 38, .inl ng_9))] H := hP
      have hD : va_D A [(t0, .inl (tc, 8, .inl tf)), (h0, .inr (7, [.ref a0, v1, v2, v3, v4, .ref t0, v6, v7, v8, v9, v10, v11, v12, v13, v14, v15, v16, v17, v18, v19, v20, v21, v22, v23, v24, v25, v26, v27])), (a0, .inl (ac, 38, .inl ng_9))] := hD
      refine lv_iload_n hx hb dX9_tear_37 rfl (lv_at hl 0 rfl) ?_
      refine lv_icmp_ne (tgt := 45) hx hb dX9_tear_38 (by decide) (fun c_12 => ?_) (fun c_12 => ?_)
      · skip
        have tc_12 : ¬ r_8.toInt = 0 := fun h => c_12 ((fa_eq _ _).mpr h)
        refine lv_iconst (v := 1) hx hb dX9_tear_45 (by decide) ?_
        have hP9 := hP.sub (ws' := [(h0, .inr (7, [.ref a0, v1, v2, v3, v4, .ref t0, v6, v7, v8, v9, v10, v11, v12, v13, v14, v15, v16, v17, v18, v19, v20, v21, v22, v23, v24, v25, v26, v27])), (t0, .inl (tc, 8, .inl tf)), (a0, .inl (ac, 38, .inl ng_9))]) [1, 0, 2] rfl
        have hD9 := hD.sub (ws' := [(h0, .inr (7, [.ref a0, v1, v2, v3, v4, .ref t0, v6, v7, v8, v9, v10, v11, v12, v13, v14, v15, v16, v17, v18, v19, v20, v21, v22, v23, v24, v25, v26, v27])), (t0, .inl (tc, 8, .inl tf)), (a0, .inl (ac, 38, .inl ng_9))]) [1, 0, 2] (by decide) rfl
        have hK9 := hK.sub (tys' := [(tc, .int), (ac, .int)]) [0, 1] rfl
        exact W.iret (v := (1 : Int32)) hx hb hr (fun t ht hW => ⟨⟨(1 : Int32), (), rfl, trivial, tf, ng_9, hq_10, (by first | omega | decide | (simp only [fa_lt, fa_le, fa_eq, and_true, true_and, and_false, false_and, not_true_eq_false, not_false_eq_true, li_0, li_1, li_2, li_3, li_4, li_5, li_6, li_7, li_8, li_9, li_10, li_12, li_15, li_16, li_20, li_30, li_34, li_38, li_40, li_63, li_64, li_65, li_78, li_120, li_1000, li_4000, li_10000, li_11077, li_255, li_65535, li_m1, li_m2, li_m1000000001, li_m1000000002, li_m1000000003, li_m1000000004, li_m1000000005, li_m1000000006, li_m1000000007, or_true, true_or, or_false, false_or, implies_true, true_implies, false_implies] <;> omega)), by rw [ht]; exact hP9, va_K.moved hW.alike hK9, hD9⟩, hS.F ht⟩) hS.2.2 dX9_tear_46
      · skip
        have tc_12 : r_8.toInt = 0 := (fa_eq _ _).mp c_12
        refine lv_iconst (v := 0) hx hb dX9_tear_41 (by decide) ?_
        refine lv_goto (tgt := 46) hx hb dX9_tear_42 (by decide) ?_
        have hP9 := hP.sub (ws' := [(h0, .inr (7, [.ref a0, v1, v2, v3, v4, .ref t0, v6, v7, v8, v9, v10, v11, v12, v13, v14, v15, v16, v17, v18, v19, v20, v21, v22, v23, v24, v25, v26, v27])), (t0, .inl (tc, 8, .inl tf)), (a0, .inl (ac, 38, .inl ng_9))]) [1, 0, 2] rfl
        have hD9 := hD.sub (ws' := [(h0, .inr (7, [.ref a0, v1, v2, v3, v4, .ref t0, v6, v7, v8, v9, v10, v11, v12, v13, v14, v15, v16, v17, v18, v19, v20, v21, v22, v23, v24, v25, v26, v27])), (t0, .inl (tc, 8, .inl tf)), (a0, .inl (ac, 38, .inl ng_9))]) [1, 0, 2] (by decide) rfl
        have hK9 := hK.sub (tys' := [(tc, .int), (ac, .int)]) [0, 1] rfl
        exact W.iret (v := (0 : Int32)) hx hb hr (fun t ht hW => ⟨⟨(0 : Int32), (), rfl, trivial, tf, ng_9, hq_10, (by first | omega | decide | (simp only [fa_lt, fa_le, fa_eq, and_true, true_and, and_false, false_and, not_true_eq_false, not_false_eq_true, li_0, li_1, li_2, li_3, li_4, li_5, li_6, li_7, li_8, li_9, li_10, li_12, li_15, li_16, li_20, li_30, li_34, li_38, li_40, li_63, li_64, li_65, li_78, li_120, li_1000, li_4000, li_10000, li_11077, li_255, li_65535, li_m1, li_m2, li_m1000000001, li_m1000000002, li_m1000000003, li_m1000000004, li_m1000000005, li_m1000000006, li_m1000000007, or_true, true_or, or_false, false_or, implies_true, true_implies, false_implies] <;> omega)), by rw [ht]; exact hP9, va_K.moved hW.alike hK9, hD9⟩, hS.F ht⟩) hS.2.2 dX9_tear_46
    · skip
      have tc_4 : ¬ b.toInt = 0 := fun h => c_4 ((fa_eq _ _).mpr h)
      refine lv_iconst (v := 1) hx hb dX9_tear_19 (by decide) ?_
      refine lv_goto (tgt := 24) hx hb dX9_tear_20 (by decide) ?_
      refine lv_istore_n (lv' := [(3, .int 1), (0, .ref h0), (1, .int a), (2, .int b)]) hx hb dX9_tear_24 rfl hl (by decide) rfl (fun ls hl => ?_)
      refine lv_aload_n hx hb dX9_tear_25 rfl (lv_at hl 1 rfl) ?_
      refine lv_iconst (v := 3) hx hb dX9_tear_26 (by decide) ?_
      refine lv_iconst (v := 3) hx hb dX9_tear_27 (by decide) ?_
      refine lv_iload_n hx hb dX9_tear_28 rfl (lv_at hl 2 rfl) ?_
      refine lv_imul hx hb dX9_tear_29 ?_
      refine lv_topi (fun n_13 en_13 => ?_)
      have tn_13 : n_13.toInt = 3 * a.toInt := pp_mul en_13 rfl rfl (by omega) (by omega)
      clear en_13
      refine lv_iadd hx hb dX9_tear_30 ?_
      refine lv_topi (fun n_14 en_14 => ?_)
      have tn_14 : n_14.toInt = 3 + n_13.toInt := pp_add en_14 rfl rfl (by omega) (by omega)
      clear en_14
      refine lv_iconst (v := 2) hx hb dX9_tear_31 (by decide) ?_
      refine lv_iadd hx hb dX9_tear_32 ?_
      refine lv_topi (fun n_15 en_15 => ?_)
      have tn_15 : n_15.toInt = n_14.toInt + 2 := pp_add en_15 rfl rfl (by omega) (by omega)
      clear en_15
      refine lv_iload_n hx hb dX9_tear_33 rfl (lv_at hl 0 rfl) ?_
      have hPc := hP.sub (ws' := [(h0, .inr (7, [.ref a0, v1, v2, v3, v4, .ref t0, v6, v7, v8, v9, v10, v11, v12, v13, v14, v15, v16, v17, v18, v19, v20, v21, v22, v23, v24, v25, v26, v27])), (a0, .inl (ac, 38, .inl nf))]) [0, 2] rfl
      have hKc := hK.sub (tys' := [(ac, .int)]) [1] rfl
      have hDc := hD.sub (ws' := [(h0, .inr (7, [.ref a0, v1, v2, v3, v4, .ref t0, v6, v7, v8, v9, v10, v11, v12, v13, v14, v15, v16, v17, v18, v19, v20, v21, v22, v23, v24, v25, v26, v27])), (a0, .inl (ac, 38, .inl nf))]) [0, 2] (by decide) rfl
      have hFc := va_free (wc := [(h0, .inr (7, [.ref a0, v1, v2, v3, v4, .ref t0, v6, v7, v8, v9, v10, v11, v12, v13, v14, v15, v16, v17, v18, v19, v20, v21, v22, v23, v24, v25, v26, v27])), (a0, .inl (ac, 38, .inl nf))]) hD hS hA [0, 2] rfl
      refine va_calli (va_runV (As := [.int n_15, .int 1]) (rest := []) ⟨hx, hb, hml, hown, hts⟩ (m_putIn l dC dI ad h0 n_15 1 a0 v1 v2 v3 v4 (.ref t0) v6 v7 v8 v9 v10 v11 v12 v13 v14 v15 v16 v17 v18 v19 v20 v21 v22 v23 v24 v25 v26 v27 ac nf s.heap.size hI (by first | omega | decide | (simp only [fa_lt, fa_le, fa_eq, and_true, true_and, and_false, false_and, not_true_eq_false, not_false_eq_true, li_0, li_1, li_2, li_3, li_4, li_5, li_6, li_7, li_8, li_9, li_10, li_12, li_15, li_16, li_20, li_30, li_34, li_38, li_40, li_63, li_64, li_65, li_78, li_120, li_1000, li_4000, li_10000, li_11077, li_255, li_65535, li_m1, li_m2, li_m1000000001, li_m1000000002, li_m1000000003, li_m1000000004, li_m1000000005, li_m1000000006, li_m1000000007, or_true, true_or, or_false, false_or, implies_true, true_implies, false_implies] <;> omega))) (cwV 2 hts g_m_tear_m_putIn_102 rfl rfl rfl (by decide +kernel) ⟨(Nat.le_of_ble_eq_true rfl), (Nat.le_of_ble_eq_true rfl)⟩) ⟨preM_blind, va_recv hKc hPc (ci := 7) (q0 := 0) rfl rfl, fun U hU hW => ⟨rfl, preM_at hU hW hPc hKc hDc hev⟩⟩ rfl rfl hl.1 rfl (lv_room (Nat.le_of_ble_eq_true rfl)) dX9_tear_34 ⟨(Nat.le_of_ble_eq_true rfl), (Nat.le_of_ble_eq_true rfl)⟩) hS (fun q _ h => hFc q h) hFc (fun r_16 u t H1 locs ht hvm hw hB hz1 hk1 hS => ?_)
      obtain ⟨ng_17, hq_18, hq_19, hP1, hK1, hD1⟩ := hB
      rw [ht] at hP1
      have hK1 := va_K.moved hvm.symm hK1
      obtain ⟨hP, hD⟩ := va_join (wr := [(t0, .inl (tc, 8, .inl tf))]) (w1 := [(h0, .inr (7, [.ref a0, v1, v2, v3, v4, .ref t0, v6, v7, v8, v9, v10, v11, v12, v13, v14, v15, v16, v17, v18, v19, v20, v21, v22, v23, v24, v25, v26, v27])), (a0, .inl (ac, 38, .inl ng_17))]) hP hD [0, 2] [1] rfl rfl (by decide) (by decide) hk1 hFc hP1 hD1
      generalize H1 = H at hP hS ⊢
      have hP : va_P (dC, dI) vwCl [(t0, .inl (tc, 8, .inl tf)), (h0, .inr (7, [.ref a0, v1, v2, v3, v4, .ref t0, v6, v7, v8, v9, v10, v11, v12, v13, v14, v15, v16, v17, v18, v19, v20, v21, v22, v23, v24, v25, v26, v27])), (a0, .inl (ac, 38, .inl ng_17))] H := hP
      have hD : va_D A [(t0, .inl (tc, 8, .inl tf)), (h0, .inr (7, [.ref a0, v1, v2, v3, v4, .ref t0, v6, v7, v8, v9, v10, v11, v12, v13, v14, v15, v16, v17, v18, v19, v20, v21, v22, v23, v24, v25, v26, v27])), (a0, .inl (ac, 38, .inl ng_17))] := hD
      refine lv_iload_n hx hb dX9_tear_37 rfl (lv_at hl 0 rfl) ?_
      refine lv_icmp_ne (tgt := 45) hx hb dX9_tear_38 (by decide) (fun c_20 => ?_) (fun c_20 => ?_)
      · skip
        have tc_20 : ¬ r_16.toInt = 1 := fun h => c_20 ((fa_eq _ _).mpr h)
        refine lv_iconst (v := 1) hx hb dX9_tear_45 (by decide) ?_
        have hP9 := hP.sub (ws' := [(h0, .inr (7, [.ref a0, v1, v2, v3, v4, .ref t0, v6, v7, v8, v9, v10, v11, v12, v13, v14, v15, v16, v17, v18, v19, v20, v21, v22, v23, v24, v25, v26, v27])), (t0, .inl (tc, 8, .inl tf)), (a0, .inl (ac, 38, .inl ng_17))]) [1, 0, 2] rfl
        have hD9 := hD.sub (ws' := [(h0, .inr (7, [.ref a0, v1, v2, v3, v4, .ref t0, v6, v7, v8, v9, v10, v11, v12, v13, v14, v15, v16, v17, v18, v19, v20, v21, v22, v23, v24, v25, v26, v27])), (t0, .inl (tc, 8, .inl tf)), (a0, .inl (ac, 38, .inl ng_17))]) [1, 0, 2] (by decide) rfl
        have hK9 := hK.sub (tys' := [(tc, .int), (ac, .int)]) [0, 1] rfl
        exact W.iret (v := (1 : Int32)) hx hb hr (fun t ht hW => ⟨⟨(1 : Int32), (), rfl, trivial, tf, ng_17, hq_18, (by first | omega | decide | (simp only [fa_lt, fa_le, fa_eq, and_true, true_and, and_false, false_and, not_true_eq_false, not_false_eq_true, li_0, li_1, li_2, li_3, li_4, li_5, li_6, li_7, li_8, li_9, li_10, li_12, li_15, li_16, li_20, li_30, li_34, li_38, li_40, li_63, li_64, li_65, li_78, li_120, li_1000, li_4000, li_10000, li_11077, li_255, li_65535, li_m1, li_m2, li_m1000000001, li_m1000000002, li_m1000000003, li_m1000000004, li_m1000000005, li_m1000000006, li_m1000000007, or_true, true_or, or_false, false_or, implies_true, true_implies, false_implies] <;> omega)), by rw [ht]; exact hP9, va_K.moved hW.alike hK9, hD9⟩, hS.F ht⟩) hS.2.2 dX9_tear_46
      · skip
        have tc_20 : r_16.toInt = 1 := (fa_eq _ _).mp c_20
        refine lv_iconst (v := 0) hx hb dX9_tear_41 (by decide) ?_
        refine lv_goto (tgt := 46) hx hb dX9_tear_42 (by decide) ?_
        have hP9 := hP.sub (ws' := [(h0, .inr (7, [.ref a0, v1, v2, v3, v4, .ref t0, v6, v7, v8, v9, v10, v11, v12, v13, v14, v15, v16, v17, v18, v19, v20, v21, v22, v23, v24, v25, v26, v27])), (t0, .inl (tc, 8, .inl tf)), (a0, .inl (ac, 38, .inl ng_17))]) [1, 0, 2] rfl
        have hD9 := hD.sub (ws' := [(h0, .inr (7, [.ref a0, v1, v2, v3, v4, .ref t0, v6, v7, v8, v9, v10, v11, v12, v13, v14, v15, v16, v17, v18, v19, v20, v21, v22, v23, v24, v25, v26, v27])), (t0, .inl (tc, 8, .inl tf)), (a0, .inl (ac, 38, .inl ng_17))]) [1, 0, 2] (by decide) rfl
        have hK9 := hK.sub (tys' := [(tc, .int), (ac, .int)]) [0, 1] rfl
        exact W.iret (v := (0 : Int32)) hx hb hr (fun t ht hW => ⟨⟨(0 : Int32), (), rfl, trivial, tf, ng_17, hq_18, (by first | omega | decide | (simp only [fa_lt, fa_le, fa_eq, and_true, true_and, and_false, false_and, not_true_eq_false, not_false_eq_true, li_0, li_1, li_2, li_3, li_4, li_5, li_6, li_7, li_8, li_9, li_10, li_12, li_15, li_16, li_20, li_30, li_34, li_38, li_40, li_63, li_64, li_65, li_78, li_120, li_1000, li_4000, li_10000, li_11077, li_255, li_65535, li_m1, li_m2, li_m1000000001, li_m1000000002, li_m1000000003, li_m1000000004, li_m1000000005, li_m1000000006, li_m1000000007, or_true, true_or, or_false, false_or, implies_true, true_implies, false_implies] <;> omega)), by rw [ht]; exact hP9, va_K.moved hW.alike hK9, hD9⟩, hS.F ht⟩) hS.2.2 dX9_tear_46
  · skip
    have tc_2 : r_1.toInt = 0 := (fa_eq _ _).mp c_2
    refine lv_aload_n hx hb dX9_tear_8 rfl (lv_at hl 0 rfl) ?_
    refine lv_ldc hx hb hown (hts _ (List.mem_of_getElem? (i := 14) rfl)) dX9_tear_9 ?_
    have hPc := hP.sub (ws' := [(h0, .inr (7, [.ref a0, v1, v2, v3, v4, .ref t0, v6, v7, v8, v9, v10, v11, v12, v13, v14, v15, v16, v17, v18, v19, v20, v21, v22, v23, v24, v25, v26, v27])), (t0, .inl (tc, 8, .inl tf))]) [0, 1] rfl
    have hKc := hK.sub (tys' := [(tc, .int)]) [0] rfl
    have hDc := hD.sub (ws' := [(h0, .inr (7, [.ref a0, v1, v2, v3, v4, .ref t0, v6, v7, v8, v9, v10, v11, v12, v13, v14, v15, v16, v17, v18, v19, v20, v21, v22, v23, v24, v25, v26, v27])), (t0, .inl (tc, 8, .inl tf))]) [0, 1] (by decide) rfl
    have hFc := va_free (wc := [(h0, .inr (7, [.ref a0, v1, v2, v3, v4, .ref t0, v6, v7, v8, v9, v10, v11, v12, v13, v14, v15, v16, v17, v18, v19, v20, v21, v22, v23, v24, v25, v26, v27])), (t0, .inl (tc, 8, .inl tf))]) hD hS hA [0, 1] rfl
    refine va_calli (va_runV (As := [.int (-1000000001)]) (rest := []) ⟨hx, hb, hml, hown, hts⟩ (mf_beyond l dC dI ad h0 (.ref a0) v1 v2 v3 v4 t0 v6 v7 v8 v9 v10 v11 v12 v13 v14 v15 v16 v17 v18 v19 v20 v21 v22 v23 v24 v25 v26 v27 tc tf s.heap.size ) (cwV 1 hts g_m_tear_mf_beyond_84 rfl rfl rfl (by decide +kernel) ⟨(Nat.le_of_ble_eq_true rfl), (Nat.le_of_ble_eq_true rfl)⟩) ⟨preM_blind, va_recv hKc hPc (ci := 7) (q0 := 0) rfl rfl, fun U hU hW => ⟨rfl, preM_at hU hW hPc hKc hDc hev⟩⟩ rfl rfl hl.1 rfl (lv_room (Nat.le_of_ble_eq_true rfl)) dX9_tear_11 ⟨(Nat.le_of_ble_eq_true rfl), (Nat.le_of_ble_eq_true rfl)⟩) hS (fun q _ h => hFc q h) hFc (fun r_21 u t H1 locs ht hvm hw hB hz1 hk1 hS => ?_)
    obtain ⟨tg_22, hP1, hK1, hD1⟩ := hB
    rw [ht] at hP1
    have hK1 := va_K.moved hvm.symm hK1
    obtain ⟨hP, hD⟩ := va_join (wr := [(a0, .inl (ac, 38, .inl nf))]) (w1 := [(h0, .inr (7, [.ref a0, v1, v2, v3, v4, .ref t0, v6, v7, v8, v9, v10, v11, v12, v13, v14, v15, v16, v17, v18, v19, v20, v21, v22, v23, v24, v25, v26, v27])), (t0, .inl (tc, 8, .inl tg_22))]) hP hD [0, 1] [2] rfl rfl (by decide) (by decide) hk1 hFc hP1 hD1
    generalize H1 = H at hP hS ⊢
    have hP : va_P (dC, dI) vwCl [(a0, .inl (ac, 38, .inl nf)), (h0, .inr (7, [.ref a0, v1, v2, v3, v4, .ref t0, v6, v7, v8, v9, v10, v11, v12, v13, v14, v15, v16, v17, v18, v19, v20, v21, v22, v23, v24, v25, v26, v27])), (t0, .inl (tc, 8, .inl tg_22))] H := hP
    have hD : va_D A [(a0, .inl (ac, 38, .inl nf)), (h0, .inr (7, [.ref a0, v1, v2, v3, v4, .ref t0, v6, v7, v8, v9, v10, v11, v12, v13, v14, v15, v16, v17, v18, v19, v20, v21, v22, v23, v24, v25, v26, v27])), (t0, .inl (tc, 8, .inl tg_22))] := hD
    subst hw
    have hP9 := hP.sub (ws' := [(h0, .inr (7, [.ref a0, v1, v2, v3, v4, .ref t0, v6, v7, v8, v9, v10, v11, v12, v13, v14, v15, v16, v17, v18, v19, v20, v21, v22, v23, v24, v25, v26, v27])), (t0, .inl (tc, 8, .inl tg_22)), (a0, .inl (ac, 38, .inl nf))]) [1, 2, 0] rfl
    have hD9 := hD.sub (ws' := [(h0, .inr (7, [.ref a0, v1, v2, v3, v4, .ref t0, v6, v7, v8, v9, v10, v11, v12, v13, v14, v15, v16, v17, v18, v19, v20, v21, v22, v23, v24, v25, v26, v27])), (t0, .inl (tc, 8, .inl tg_22)), (a0, .inl (ac, 38, .inl nf))]) [1, 2, 0] (by decide) rfl
    have hK9 := hK.sub (tys' := [(tc, .int), (ac, .int)]) [0, 1] rfl
    exact W.iret (v := ((-1000000001) : Int32)) hx hb hr (fun t ht hW => ⟨⟨((-1000000001) : Int32), (), rfl, trivial, tg_22, nf, hI, (by first | omega | decide | (simp only [fa_lt, fa_le, fa_eq, and_true, true_and, and_false, false_and, not_true_eq_false, not_false_eq_true, li_0, li_1, li_2, li_3, li_4, li_5, li_6, li_7, li_8, li_9, li_10, li_12, li_15, li_16, li_20, li_30, li_34, li_38, li_40, li_63, li_64, li_65, li_78, li_120, li_1000, li_4000, li_10000, li_11077, li_255, li_65535, li_m1, li_m2, li_m1000000001, li_m1000000002, li_m1000000003, li_m1000000004, li_m1000000005, li_m1000000006, li_m1000000007, or_true, true_or, or_false, false_or, implies_true, true_implies, false_implies] <;> omega)), by rw [ht]; exact hP9, va_K.moved hW.alike hK9, hD9⟩, hS.F ht⟩) hS.2.2 dX9_tear_14

def w_m_become : List Cond := .code yX9_become cX9_become 3 (some .int) :: (([.methodLink RX9 93 yX9_isShape, .instanceMethod yX9_isShape, .selects RX9 yX9_isShape yX9_isShape, .initialized RX9, .code yX9_isShape cX9_isShape 2 (some .boolean), .fieldLink RX9 9 "LampShapesModel" "now" "[I", .methodLink RX9 75 yX9_within, .static yX9_within, .code yX9_within cX9_within 3 (some .boolean), .constant RX9 74 (-1000000001), .methodLink RX9 84 yX9_finding, .instanceMethod yX9_finding, .selects RX9 yX9_finding yX9_finding, .code yX9_finding cX9_finding 2 (some .int), .fieldLink RX9 23 "LampShapesModel" "found" "[I", .methodLink RX9 79 yX9_isKind, .static yX9_isKind, .code yX9_isKind cX9_isKind 1 (some .boolean), .methodLink RX9 102 yX9_putIn, .instanceMethod yX9_putIn, .selects RX9 yX9_putIn yX9_putIn, .code yX9_putIn cX9_putIn 4 (some .int)] : List Cond) ++ wsX90)
set_option maxRecDepth 20000 in
theorem g_m_become_m_isShape_93 : GoodIn w_m_become (wsV RX9 93 RX9 yX9_isShape w_m_isShape) := goodIn_r _ [1, 2, 3, 4, 5, 6, 7, 8, 4, 9, 23, 24, 25, 26, 27, 28, 29, 30, 31, 32, 33, 34, 35, 36, 37, 38, 39, 40, 41, 42, 43, 44, 45, 46, 47, 48, 49, 50] rfl (by decide +kernel)
set_option maxRecDepth 20000 in
theorem g_m_become_mf_beyond_84 : GoodIn w_m_become (wsV RX9 84 RX9 yX9_finding w_mf_beyond) := goodIn_r _ [11, 12, 13, 4, 14, 15, 10, 23, 24, 25, 26, 27, 28, 29, 30, 31, 32, 33, 34, 35, 36, 37, 38, 39, 40, 41, 42, 43, 44, 45, 46, 47, 48, 49, 50] rfl (by decide +kernel)
set_option maxRecDepth 20000 in
theorem g_m_become_m_isKind_79 : GoodIn w_m_become (va_wsS RX9 79 yX9_isKind w_m_isKind) := goodIn_r _ [16, 17, 4, 18, 7, 8, 4, 9] rfl (by decide +kernel)
set_option maxRecDepth 20000 in
theorem g_m_become_m_putIn_102 : GoodIn w_m_become (wsV RX9 102 RX9 yX9_putIn w_m_putIn) := goodIn_r _ [19, 20, 21, 4, 22, 6, 23, 24, 25, 26, 27, 28, 29, 30, 31, 32, 33, 34, 35, 36, 37, 38, 39, 40, 41, 42, 43, 44, 45, 46, 47, 48, 49, 50] rfl (by decide +kernel)
set_option maxHeartbeats 4000000 in
set_option maxRecDepth 100000 in
theorem m_become (l : Launch) (dC : Nat → ClassId) (dI : Nat → Nat → Nat) (ad : Nat → Nat) (h0 : Nat) (a : Int32) (b : Int32) (a0 : Nat) (v1 : Value) (v2 : Value) (v3 : Value) (v4 : Value) (t0 : Nat) (v6 : Value) (v7 : Value) (v8 : Value) (v9 : Value) (v10 : Value) (v11 : Value) (v12 : Value) (v13 : Value) (v14 : Value) (v15 : Value) (v16 : Value) (v17 : Value) (v18 : Value) (v19 : Value) (v20 : Value) (v21 : Value) (v22 : Value) (v23 : Value) (v24 : Value) (v25 : Value) (v26 : Value) (v27 : Value) (tc : ClassId) (tf : Nat → Int32) (ac : ClassId) (nf : Nat → Int32) (sz : Nat) (hI : mI nf) : Met l yX9_become w_m_become ({ frames := 2, cells := 0, slots := 0, locals := 43 } : Room) (va_Pc [.ref h0, .int a, .int b] (preM dC dI ad [(tc, .int), (ac, .int)] [(h0, .inr (7, [.ref a0, v1, v2, v3, v4, .ref t0, v6, v7, v8, v9, v10, v11, v12, v13, v14, v15, v16, v17, v18, v19, v20, v21, v22, v23, v24, v25, v26, v27])), (t0, .inl (tc, 8, .inl tf)), (a0, .inl (ac, 38, .inl nf))] sz)) (va_Qi (fun (r : Int32) (_ : Unit) => True) (fun _ t => ∃ (tg : Nat → Int32), ∃ (ng : Nat → Int32), (mI ng) ∧ ((ng 2).toInt = (nf 2).toInt) ∧ va_P (dC, dI) vwCl [(h0, .inr (7, [.ref a0, v1, v2, v3, v4, .ref t0, v6, v7, v8, v9, v10, v11, v12, v13, v14, v15, v16, v17, v18, v19, v20, v21, v22, v23, v24, v25, v26, v27])), (t0, .inl (tc, 8, .inl tg)), (a0, .inl (ac, 38, .inl ng))] t.heap ∧ va_K (dC, dI) vwCl [(tc, .int), (ac, .int)] t ∧ va_D (va_A [(h0, .inr (7, [.ref a0, v1, v2, v3, v4, .ref t0, v6, v7, v8, v9, v10, v11, v12, v13, v14, v15, v16, v17, v18, v19, v20, v21, v22, v23, v24, v25, v26, v27])), (t0, .inl (tc, 8, .inl tf)), (a0, .inl (ac, 38, .inl nf))] sz) [(h0, .inr (7, [.ref a0, v1, v2, v3, v4, .ref t0, v6, v7, v8, v9, v10, v11, v12, v13, v14, v15, v16, v17, v18, v19, v20, v21, v22, v23, v24, v25, v26, v27])), (t0, .inl (tc, 8, .inl tg)), (a0, .inl (ac, 38, .inl ng))]) (va_A [(h0, .inr (7, [.ref a0, v1, v2, v3, v4, .ref t0, v6, v7, v8, v9, v10, v11, v12, v13, v14, v15, v16, v17, v18, v19, v20, v21, v22, v23, v24, v25, v26, v27])), (t0, .inl (tc, 8, .inl tf)), (a0, .inl (ac, 38, .inl nf))] sz)) 0 0 (va_A [(h0, .inr (7, [.ref a0, v1, v2, v3, v4, .ref t0, v6, v7, v8, v9, v10, v11, v12, v13, v14, v15, v16, v17, v18, v19, v20, v21, v22, v23, v24, v25, v26, v27])), (t0, .inl (tc, 8, .inl tf)), (a0, .inl (ac, 38, .inl nf))] sz) := by
  refine Met.ofW (cc := cX9_become) (maxL := 3) (ret := (some .int)) (by decide) rfl ?_
  intro p e s m args below meth c s₁ B hml hv
  obtain ⟨rfl, hsz, hP, hK, hD0, hev⟩ := hv
  have hx := B.exec
  have hb := B.bytes
  have hr := B.returns
  have hts := atoms_spec (ws := w_m_become) B.pre
  have hown : s.vm.findClass RX9 = some m.cls := findClass_of_methodNamed B.named
  have hlocks := B.notSynchronized
  have inX9 : ∀ w ∈ wsX90, w ∈ w_m_become := fun w h => List.mem_cons_of_mem _ (List.mem_append_right _ h)
  subst hsz
  have hD := hD0.self (sz := s.heap.size)
  generalize hAe : va_A [(h0, .inr (7, [.ref a0, v1, v2, v3, v4, .ref t0, v6, v7, v8, v9, v10, v11, v12, v13, v14, v15, v16, v17, v18, v19, v20, v21, v22, v23, v24, v25, v26, v27])), (t0, .inl (tc, 8, .inl tf)), (a0, .inl (ac, 38, .inl nf))] s.heap.size = A at hD ⊢
  have hA : ∀ q : Nat, s.heap.size ≤ q → A q := fun q h => by rw [← hAe]; exact Or.inr h
  have hS : va_S A s.heap s.heap [] := va_S.rf
  have hP : va_P (dC, dI) vwCl [(h0, .inr (7, [.ref a0, v1, v2, v3, v4, .ref t0, v6, v7, v8, v9, v10, v11, v12, v13, v14, v15, v16, v17, v18, v19, v20, v21, v22, v23, v24, v25, v26, v27])), (t0, .inl (tc, 8, .inl tf)), (a0, .inl (ac, 38, .inl nf))] s.heap := hP
  have hl := lv_entry ([.ref h0, .int a, .int b]) (n := 3) (Nat.le_of_ble_eq_true rfl)
  rw [lg_entry_eq]
  generalize (lg_sl ([.ref h0, .int a, .int b]) ++ List.replicate (3 - (lg_sl ([.ref h0, .int a, .int b])).length) Slot.unset).toArray = ls at hl ⊢
  have hl : lv_has ls 3 [(0, .ref h0), (1, .int a), (2, .int b)] := hl
  refine lv_aload_n hx hb dX9_become_0 rfl (lv_at hl 0 rfl) ?_
  refine lv_iload_n hx hb dX9_become_1 rfl (lv_at hl 1 rfl) ?_
  have hPc := hP.sub (ws' := [(h0, .inr (7, [.ref a0, v1, v2, v3, v4, .ref t0, v6, v7, v8, v9, v10, v11, v12, v13, v14, v15, v16, v17, v18, v19, v20, v21, v22, v23, v24, v25, v26, v27])), (a0, .inl (ac, 38, .inl nf))]) [0, 2] rfl
  have hKc := hK.sub (tys' := [(ac, .int)]) [1] rfl
  refine vp_callSi (W.runV (As := [.int a]) (rest := []) ⟨hx, hb, hml, hown, hts⟩ (m_isShape l dC dI ad h0 a a0 v1 v2 v3 v4 (.ref t0) v6 v7 v8 v9 v10 v11 v12 v13 v14 v15 v16 v17 v18 v19 v20 v21 v22 v23 v24 v25 v26 v27 ac nf hI) (cwV 1 hts g_m_become_m_isShape_93 rfl rfl rfl (by decide +kernel) ⟨(Nat.le_of_ble_eq_true rfl), (Nat.le_of_ble_eq_true rfl)⟩) ⟨preS_blind, va_recv hKc hPc (ci := 7) (q0 := 0) rfl rfl, fun U hU hW => ⟨rfl, preS_at hU hW hPc hKc hev⟩⟩ rfl rfl hl.1 rfl (lv_room (Nat.le_of_ble_eq_true rfl)) dX9_become_2 ⟨(Nat.le_of_ble_eq_true rfl), (Nat.le_of_ble_eq_true rfl)⟩) (fun r_1 hw => ?_)
  have hr_1 : (r_1.toInt = 1 ∧ 0 ≤ a.toInt ∧ a.toInt < (nf 0).toInt ∧ a.toInt ≤ 8) ∨ r_1.toInt = 0 := hw
  refine lv_if_eq (tgt := 30) hx hb dX9_become_5 (by decide) (fun c_2 => ?_) (fun c_2 => ?_)
  · skip
    have tc_2 : r_1.toInt = 0 := (fa_eq _ _).mp c_2
    refine lv_aload_n hx hb dX9_become_30 rfl (lv_at hl 0 rfl) ?_
    refine lv_ldc hx hb hown (hts _ (List.mem_of_getElem? (i := 10) rfl)) dX9_become_31 ?_
    have hPc := hP.sub (ws' := [(h0, .inr (7, [.ref a0, v1, v2, v3, v4, .ref t0, v6, v7, v8, v9, v10, v11, v12, v13, v14, v15, v16, v17, v18, v19, v20, v21, v22, v23, v24, v25, v26, v27])), (t0, .inl (tc, 8, .inl tf))]) [0, 1] rfl
    have hKc := hK.sub (tys' := [(tc, .int)]) [0] rfl
    have hDc := hD.sub (ws' := [(h0, .inr (7, [.ref a0, v1, v2, v3, v4, .ref t0, v6, v7, v8, v9, v10, v11, v12, v13, v14, v15, v16, v17, v18, v19, v20, v21, v22, v23, v24, v25, v26, v27])), (t0, .inl (tc, 8, .inl tf))]) [0, 1] (by decide) rfl
    have hFc := va_free (wc := [(h0, .inr (7, [.ref a0, v1, v2, v3, v4, .ref t0, v6, v7, v8, v9, v10, v11, v12, v13, v14, v15, v16, v17, v18, v19, v20, v21, v22, v23, v24, v25, v26, v27])), (t0, .inl (tc, 8, .inl tf))]) hD hS hA [0, 1] rfl
    refine va_calli (va_runV (As := [.int (-1000000001)]) (rest := []) ⟨hx, hb, hml, hown, hts⟩ (mf_beyond l dC dI ad h0 (.ref a0) v1 v2 v3 v4 t0 v6 v7 v8 v9 v10 v11 v12 v13 v14 v15 v16 v17 v18 v19 v20 v21 v22 v23 v24 v25 v26 v27 tc tf s.heap.size ) (cwV 1 hts g_m_become_mf_beyond_84 rfl rfl rfl (by decide +kernel) ⟨(Nat.le_of_ble_eq_true rfl), (Nat.le_of_ble_eq_true rfl)⟩) ⟨preM_blind, va_recv hKc hPc (ci := 7) (q0 := 0) rfl rfl, fun U hU hW => ⟨rfl, preM_at hU hW hPc hKc hDc hev⟩⟩ rfl rfl hl.1 rfl (lv_room (Nat.le_of_ble_eq_true rfl)) dX9_become_33 ⟨(Nat.le_of_ble_eq_true rfl), (Nat.le_of_ble_eq_true rfl)⟩) hS (fun q _ h => hFc q h) hFc (fun r_3 u t H1 locs ht hvm hw hB hz1 hk1 hS => ?_)
    obtain ⟨tg_4, hP1, hK1, hD1⟩ := hB
    rw [ht] at hP1
    have hK1 := va_K.moved hvm.symm hK1
    obtain ⟨hP, hD⟩ := va_join (wr := [(a0, .inl (ac, 38, .inl nf))]) (w1 := [(h0, .inr (7, [.ref a0, v1, v2, v3, v4, .ref t0, v6, v7, v8, v9, v10, v11, v12, v13, v14, v15, v16, v17, v18, v19, v20, v21, v22, v23, v24, v25, v26, v27])), (t0, .inl (tc, 8, .inl tg_4))]) hP hD [0, 1] [2] rfl rfl (by decide) (by decide) hk1 hFc hP1 hD1
    generalize H1 = H at hP hS ⊢
    have hP : va_P (dC, dI) vwCl [(a0, .inl (ac, 38, .inl nf)), (h0, .inr (7, [.ref a0, v1, v2, v3, v4, .ref t0, v6, v7, v8, v9, v10, v11, v12, v13, v14, v15, v16, v17, v18, v19, v20, v21, v22, v23, v24, v25, v26, v27])), (t0, .inl (tc, 8, .inl tg_4))] H := hP
    have hD : va_D A [(a0, .inl (ac, 38, .inl nf)), (h0, .inr (7, [.ref a0, v1, v2, v3, v4, .ref t0, v6, v7, v8, v9, v10, v11, v12, v13, v14, v15, v16, v17, v18, v19, v20, v21, v22, v23, v24, v25, v26, v27])), (t0, .inl (tc, 8, .inl tg_4))] := hD
    subst hw
    have hP9 := hP.sub (ws' := [(h0, .inr (7, [.ref a0, v1, v2, v3, v4, .ref t0, v6, v7, v8, v9, v10, v11, v12, v13, v14, v15, v16, v17, v18, v19, v20, v21, v22, v23, v24, v25, v26, v27])), (t0, .inl (tc, 8, .inl tg_4)), (a0, .inl (ac, 38, .inl nf))]) [1, 2, 0] rfl
    have hD9 := hD.sub (ws' := [(h0, .inr (7, [.ref a0, v1, v2, v3, v4, .ref t0, v6, v7, v8, v9, v10, v11, v12, v13, v14, v15, v16, v17, v18, v19, v20, v21, v22, v23, v24, v25, v26, v27])), (t0, .inl (tc, 8, .inl tg_4)), (a0, .inl (ac, 38, .inl nf))]) [1, 2, 0] (by decide) rfl
    have hK9 := hK.sub (tys' := [(tc, .int), (ac, .int)]) [0, 1] rfl
    exact W.iret (v := ((-1000000001) : Int32)) hx hb hr (fun t ht hW => ⟨⟨((-1000000001) : Int32), (), rfl, trivial, tg_4, nf, hI, (by first | omega | decide | (simp only [fa_lt, fa_le, fa_eq, and_true, true_and, and_false, false_and, not_true_eq_false, not_false_eq_true, li_0, li_1, li_2, li_3, li_4, li_5, li_6, li_7, li_8, li_9, li_10, li_12, li_15, li_16, li_20, li_30, li_34, li_38, li_40, li_63, li_64, li_65, li_78, li_120, li_1000, li_4000, li_10000, li_11077, li_255, li_65535, li_m1, li_m2, li_m1000000001, li_m1000000002, li_m1000000003, li_m1000000004, li_m1000000005, li_m1000000006, li_m1000000007, or_true, true_or, or_false, false_or, implies_true, true_implies, false_implies] <;> omega)), by rw [ht]; exact hP9, va_K.moved hW.alike hK9, hD9⟩, hS.F ht⟩) hS.2.2 dX9_become_36
  · skip
    have tc_2 : ¬ r_1.toInt = 0 := fun h => c_2 ((fa_eq _ _).mpr h)
    have i_5 : 0 ≤ a.toInt ∧ a.toInt < (nf 0).toInt ∧ a.toInt ≤ 8 := by omega
    refine lv_iload_n hx hb dX9_become_8 rfl (lv_at hl 2 rfl) ?_
    have hPc := hP.sub (ws' := []) [] rfl
    have hKc := hK.sub (tys' := []) [] rfl
    refine vp_callSi (W.runS (As := [.int b]) (rest := []) ⟨hx, hb, hml, hown, hts⟩ (m_isKind l dC dI ad b ) (va_cwS 1 hts g_m_become_m_isKind_79 rfl rfl rfl (by decide +kernel) ⟨(Nat.le_of_ble_eq_true rfl), (Nat.le_of_ble_eq_true rfl)⟩) ⟨preS_blind, fun U hU hW => ⟨rfl, preS_at hU hW hPc hKc hev⟩⟩ rfl rfl hl.1 rfl (lv_room (Nat.le_of_ble_eq_true rfl)) dX9_become_9 ⟨(Nat.le_of_ble_eq_true rfl), (Nat.le_of_ble_eq_true rfl)⟩) (fun r_6 hw => ?_)
    refine lv_if_eq (tgt := 30) hx hb dX9_become_12 (by decide) (fun c_7 => ?_) (fun c_7 => ?_)
    · skip
      have tc_7 : r_6.toInt = 0 := (fa_eq _ _).mp c_7
      refine lv_aload_n hx hb dX9_become_30 rfl (lv_at hl 0 rfl) ?_
      refine lv_ldc hx hb hown (hts _ (List.mem_of_getElem? (i := 10) rfl)) dX9_become_31 ?_
      have hPc := hP.sub (ws' := [(h0, .inr (7, [.ref a0, v1, v2, v3, v4, .ref t0, v6, v7, v8, v9, v10, v11, v12, v13, v14, v15, v16, v17, v18, v19, v20, v21, v22, v23, v24, v25, v26, v27])), (t0, .inl (tc, 8, .inl tf))]) [0, 1] rfl
      have hKc := hK.sub (tys' := [(tc, .int)]) [0] rfl
      have hDc := hD.sub (ws' := [(h0, .inr (7, [.ref a0, v1, v2, v3, v4, .ref t0, v6, v7, v8, v9, v10, v11, v12, v13, v14, v15, v16, v17, v18, v19, v20, v21, v22, v23, v24, v25, v26, v27])), (t0, .inl (tc, 8, .inl tf))]) [0, 1] (by decide) rfl
      have hFc := va_free (wc := [(h0, .inr (7, [.ref a0, v1, v2, v3, v4, .ref t0, v6, v7, v8, v9, v10, v11, v12, v13, v14, v15, v16, v17, v18, v19, v20, v21, v22, v23, v24, v25, v26, v27])), (t0, .inl (tc, 8, .inl tf))]) hD hS hA [0, 1] rfl
      refine va_calli (va_runV (As := [.int (-1000000001)]) (rest := []) ⟨hx, hb, hml, hown, hts⟩ (mf_beyond l dC dI ad h0 (.ref a0) v1 v2 v3 v4 t0 v6 v7 v8 v9 v10 v11 v12 v13 v14 v15 v16 v17 v18 v19 v20 v21 v22 v23 v24 v25 v26 v27 tc tf s.heap.size ) (cwV 1 hts g_m_become_mf_beyond_84 rfl rfl rfl (by decide +kernel) ⟨(Nat.le_of_ble_eq_true rfl), (Nat.le_of_ble_eq_true rfl)⟩) ⟨preM_blind, va_recv hKc hPc (ci := 7) (q0 := 0) rfl rfl, fun U hU hW => ⟨rfl, preM_at hU hW hPc hKc hDc hev⟩⟩ rfl rfl hl.1 rfl (lv_room (Nat.le_of_ble_eq_true rfl)) dX9_become_33 ⟨(Nat.le_of_ble_eq_true rfl), (Nat.le_of_ble_eq_true rfl)⟩) hS (fun q _ h => hFc q h) hFc (fun r_8 u t H1 locs ht hvm hw hB hz1 hk1 hS => ?_)
      obtain ⟨tg_9, hP1, hK1, hD1⟩ := hB
      rw [ht] at hP1
      have hK1 := va_K.moved hvm.symm hK1
      obtain ⟨hP, hD⟩ := va_join (wr := [(a0, .inl (ac, 38, .inl nf))]) (w1 := [(h0, .inr (7, [.ref a0, v1, v2, v3, v4, .ref t0, v6, v7, v8, v9, v10, v11, v12, v13, v14, v15, v16, v17, v18, v19, v20, v21, v22, v23, v24, v25, v26, v27])), (t0, .inl (tc, 8, .inl tg_9))]) hP hD [0, 1] [2] rfl rfl (by decide) (by decide) hk1 hFc hP1 hD1
      generalize H1 = H at hP hS ⊢
      have hP : va_P (dC, dI) vwCl [(a0, .inl (ac, 38, .inl nf)), (h0, .inr (7, [.ref a0, v1, v2, v3, v4, .ref t0, v6, v7, v8, v9, v10, v11, v12, v13, v14, v15, v16, v17, v18, v19, v20, v21, v22, v23, v24, v25, v26, v27])), (t0, .inl (tc, 8, .inl tg_9))] H := hP
      have hD : va_D A [(a0, .inl (ac, 38, .inl nf)), (h0, .inr (7, [.ref a0, v1, v2, v3, v4, .ref t0, v6, v7, v8, v9, v10, v11, v12, v13, v14, v15, v16, v17, v18, v19, v20, v21, v22, v23, v24, v25, v26, v27])), (t0, .inl (tc, 8, .inl tg_9))] := hD
      subst hw
      have hP9 := hP.sub (ws' := [(h0, .inr (7, [.ref a0, v1, v2, v3, v4, .ref t0, v6, v7, v8, v9, v10, v11, v12, v13, v14, v15, v16, v17, v18, v19, v20, v21, v22, v23, v24, v25, v26, v27])), (t0, .inl (tc, 8, .inl tg_9)), (a0, .inl (ac, 38, .inl nf))]) [1, 2, 0] rfl
      have hD9 := hD.sub (ws' := [(h0, .inr (7, [.ref a0, v1, v2, v3, v4, .ref t0, v6, v7, v8, v9, v10, v11, v12, v13, v14, v15, v16, v17, v18, v19, v20, v21, v22, v23, v24, v25, v26, v27])), (t0, .inl (tc, 8, .inl tg_9)), (a0, .inl (ac, 38, .inl nf))]) [1, 2, 0] (by decide) rfl
      have hK9 := hK.sub (tys' := [(tc, .int), (ac, .int)]) [0, 1] rfl
      exact W.iret (v := ((-1000000001) : Int32)) hx hb hr (fun t ht hW => ⟨⟨((-1000000001) : Int32), (), rfl, trivial, tg_9, nf, hI, (by first | omega | decide | (simp only [fa_lt, fa_le, fa_eq, and_true, true_and, and_false, false_and, not_true_eq_false, not_false_eq_true, li_0, li_1, li_2, li_3, li_4, li_5, li_6, li_7, li_8, li_9, li_10, li_12, li_15, li_16, li_20, li_30, li_34, li_38, li_40, li_63, li_64, li_65, li_78, li_120, li_1000, li_4000, li_10000, li_11077, li_255, li_65535, li_m1, li_m2, li_m1000000001, li_m1000000002, li_m1000000003, li_m1000000004, li_m1000000005, li_m1000000006, li_m1000000007, or_true, true_or, or_false, false_or, implies_true, true_implies, false_implies] <;> omega)), by rw [ht]; exact hP9, va_K.moved hW.alike hK9, hD9⟩, hS.F ht⟩) hS.2.2 dX9_become_36
    · skip
      have tc_7 : ¬ r_6.toInt = 0 := fun h => c_7 ((fa_eq _ _).mpr h)
      refine lv_aload_n hx hb dX9_become_15 rfl (lv_at hl 0 rfl) ?_
      refine lv_iconst (v := 3) hx hb dX9_become_16 (by decide) ?_
      refine lv_iconst (v := 3) hx hb dX9_become_17 (by decide) ?_
      refine lv_iload_n hx hb dX9_become_18 rfl (lv_at hl 1 rfl) ?_
      refine lv_imul hx hb dX9_become_19 ?_
      refine lv_topi (fun n_10 en_10 => ?_)
      have tn_10 : n_10.toInt = 3 * a.toInt := pp_mul en_10 rfl rfl (by omega) (by omega)
      clear en_10
      refine lv_iadd hx hb dX9_become_20 ?_
      refine lv_topi (fun n_11 en_11 => ?_)
      have tn_11 : n_11.toInt = 3 + n_10.toInt := pp_add en_11 rfl rfl (by omega) (by omega)
      clear en_11
      refine lv_iconst (v := 0) hx hb dX9_become_21 (by decide) ?_
      refine lv_iadd hx hb dX9_become_22 ?_
      refine lv_topi (fun n_12 en_12 => ?_)
      have tn_12 : n_12.toInt = n_11.toInt + 0 := pp_add en_12 rfl rfl (by omega) (by omega)
      clear en_12
      refine lv_iload_n hx hb dX9_become_23 rfl (lv_at hl 2 rfl) ?_
      have hPc := hP.sub (ws' := [(h0, .inr (7, [.ref a0, v1, v2, v3, v4, .ref t0, v6, v7, v8, v9, v10, v11, v12, v13, v14, v15, v16, v17, v18, v19, v20, v21, v22, v23, v24, v25, v26, v27])), (a0, .inl (ac, 38, .inl nf))]) [0, 2] rfl
      have hKc := hK.sub (tys' := [(ac, .int)]) [1] rfl
      have hDc := hD.sub (ws' := [(h0, .inr (7, [.ref a0, v1, v2, v3, v4, .ref t0, v6, v7, v8, v9, v10, v11, v12, v13, v14, v15, v16, v17, v18, v19, v20, v21, v22, v23, v24, v25, v26, v27])), (a0, .inl (ac, 38, .inl nf))]) [0, 2] (by decide) rfl
      have hFc := va_free (wc := [(h0, .inr (7, [.ref a0, v1, v2, v3, v4, .ref t0, v6, v7, v8, v9, v10, v11, v12, v13, v14, v15, v16, v17, v18, v19, v20, v21, v22, v23, v24, v25, v26, v27])), (a0, .inl (ac, 38, .inl nf))]) hD hS hA [0, 2] rfl
      refine va_calli (va_runV (As := [.int n_12, .int b]) (rest := []) ⟨hx, hb, hml, hown, hts⟩ (m_putIn l dC dI ad h0 n_12 b a0 v1 v2 v3 v4 (.ref t0) v6 v7 v8 v9 v10 v11 v12 v13 v14 v15 v16 v17 v18 v19 v20 v21 v22 v23 v24 v25 v26 v27 ac nf s.heap.size hI (by first | omega | decide | (simp only [fa_lt, fa_le, fa_eq, and_true, true_and, and_false, false_and, not_true_eq_false, not_false_eq_true, li_0, li_1, li_2, li_3, li_4, li_5, li_6, li_7, li_8, li_9, li_10, li_12, li_15, li_16, li_20, li_30, li_34, li_38, li_40, li_63, li_64, li_65, li_78, li_120, li_1000, li_4000, li_10000, li_11077, li_255, li_65535, li_m1, li_m2, li_m1000000001, li_m1000000002, li_m1000000003, li_m1000000004, li_m1000000005, li_m1000000006, li_m1000000007, or_true, true_or, or_false, false_or, implies_true, true_implies, false_implies] <;> omega))) (cwV 2 hts g_m_become_m_putIn_102 rfl rfl rfl (by decide +kernel) ⟨(Nat.le_of_ble_eq_true rfl), (Nat.le_of_ble_eq_true rfl)⟩) ⟨preM_blind, va_recv hKc hPc (ci := 7) (q0 := 0) rfl rfl, fun U hU hW => ⟨rfl, preM_at hU hW hPc hKc hDc hev⟩⟩ rfl rfl hl.1 rfl (lv_room (Nat.le_of_ble_eq_true rfl)) dX9_become_24 ⟨(Nat.le_of_ble_eq_true rfl), (Nat.le_of_ble_eq_true rfl)⟩) hS (fun q _ h => hFc q h) hFc (fun r_13 u t H1 locs ht hvm hw hB hz1 hk1 hS => ?_)
      obtain ⟨ng_14, hq_15, hq_16, hP1, hK1, hD1⟩ := hB
      rw [ht] at hP1
      have hK1 := va_K.moved hvm.symm hK1
      obtain ⟨hP, hD⟩ := va_join (wr := [(t0, .inl (tc, 8, .inl tf))]) (w1 := [(h0, .inr (7, [.ref a0, v1, v2, v3, v4, .ref t0, v6, v7, v8, v9, v10, v11, v12, v13, v14, v15, v16, v17, v18, v19, v20, v21, v22, v23, v24, v25, v26, v27])), (a0, .inl (ac, 38, .inl ng_14))]) hP hD [0, 2] [1] rfl rfl (by decide) (by decide) hk1 hFc hP1 hD1
      generalize H1 = H at hP hS ⊢
      have hP : va_P (dC, dI) vwCl [(t0, .inl (tc, 8, .inl tf)), (h0, .inr (7, [.ref a0, v1, v2, v3, v4, .ref t0, v6, v7, v8, v9, v10, v11, v12, v13, v14, v15, v16, v17, v18, v19, v20, v21, v22, v23, v24, v25, v26, v27])), (a0, .inl (ac, 38, .inl ng_14))] H := hP
      have hD : va_D A [(t0, .inl (tc, 8, .inl tf)), (h0, .inr (7, [.ref a0, v1, v2, v3, v4, .ref t0, v6, v7, v8, v9, v10, v11, v12, v13, v14, v15, v16, v17, v18, v19, v20, v21, v22, v23, v24, v25, v26, v27])), (a0, .inl (ac, 38, .inl ng_14))] := hD
      refine lv_goto (tgt := 36) hx hb dX9_become_27 (by decide) ?_
      have hP9 := hP.sub (ws' := [(h0, .inr (7, [.ref a0, v1, v2, v3, v4, .ref t0, v6, v7, v8, v9, v10, v11, v12, v13, v14, v15, v16, v17, v18, v19, v20, v21, v22, v23, v24, v25, v26, v27])), (t0, .inl (tc, 8, .inl tf)), (a0, .inl (ac, 38, .inl ng_14))]) [1, 0, 2] rfl
      have hD9 := hD.sub (ws' := [(h0, .inr (7, [.ref a0, v1, v2, v3, v4, .ref t0, v6, v7, v8, v9, v10, v11, v12, v13, v14, v15, v16, v17, v18, v19, v20, v21, v22, v23, v24, v25, v26, v27])), (t0, .inl (tc, 8, .inl tf)), (a0, .inl (ac, 38, .inl ng_14))]) [1, 0, 2] (by decide) rfl
      have hK9 := hK.sub (tys' := [(tc, .int), (ac, .int)]) [0, 1] rfl
      exact W.iret (v := r_13) hx hb hr (fun t ht hW => ⟨⟨r_13, (), rfl, trivial, tf, ng_14, hq_15, (by first | omega | decide | (simp only [fa_lt, fa_le, fa_eq, and_true, true_and, and_false, false_and, not_true_eq_false, not_false_eq_true, li_0, li_1, li_2, li_3, li_4, li_5, li_6, li_7, li_8, li_9, li_10, li_12, li_15, li_16, li_20, li_30, li_34, li_38, li_40, li_63, li_64, li_65, li_78, li_120, li_1000, li_4000, li_10000, li_11077, li_255, li_65535, li_m1, li_m2, li_m1000000001, li_m1000000002, li_m1000000003, li_m1000000004, li_m1000000005, li_m1000000006, li_m1000000007, or_true, true_or, or_false, false_or, implies_true, true_implies, false_implies] <;> omega)), by rw [ht]; exact hP9, va_K.moved hW.alike hK9, hD9⟩, hS.F ht⟩) hS.2.2 dX9_become_36

def w_m_above2 : List Cond := .code yX9_above cX9_above 1 (some .int) :: (([] : List Cond))
set_option maxHeartbeats 4000000 in
set_option maxRecDepth 100000 in
theorem m_above2 (l : Launch) (dC : Nat → ClassId) (dI : Nat → Nat → Nat) (ad : Nat → Nat) (a : Int32) : Met l yX9_above w_m_above2 ({ frames := 0, cells := 0, slots := 0, locals := 0 } : Room) (va_Pc [.int a] (preS dC dI ad [] [])) (vp_Si (fun r => (a.toInt = 0 ∧ r.toInt = (-1)) ∨ ((a.toInt = 1 ∨ a.toInt = 2) ∧ r.toInt = 0) ∨ ((a.toInt < 0 ∨ 3 ≤ a.toInt) ∧ 0 ≤ r.toInt ∧ r.toInt ≤ 2))) 0 0 (fun _ => False) := by
  refine Met.ofW (cc := cX9_above) (maxL := 1) (ret := (some .int)) (by decide) rfl ?_
  intro p e s m args below meth c s₁ B hml hv
  obtain ⟨rfl, hP, hK, hev⟩ := hv
  have hx := B.exec
  have hb := B.bytes
  have hr := B.returns
  have hts := atoms_spec (ws := w_m_above2) B.pre
  have hown : s.vm.findClass RX9 = some m.cls := findClass_of_methodNamed B.named
  have hlocks := B.notSynchronized
  have hP : va_P (dC, dI) vwCl [] s.heap := hP
  have hl := lv_entry ([.int a]) (n := 1) (Nat.le_of_ble_eq_true rfl)
  rw [lg_entry_eq]
  generalize (lg_sl ([.int a]) ++ List.replicate (1 - (lg_sl ([.int a])).length) Slot.unset).toArray = ls at hl ⊢
  have hl : lv_has ls 1 [(0, .int a)] := hl
  refine lv_iload_n hx hb dX9_above_0 rfl (lv_at hl 0 rfl) ?_
  refine lv_if_ne (tgt := 8) hx hb dX9_above_1 (by decide) (fun c_1 => ?_) (fun c_1 => ?_)
  · skip
    have tc_1 : ¬ a.toInt = 0 := fun h => c_1 ((fa_eq _ _).mpr h)
    refine lv_iload_n hx hb dX9_above_8 rfl (lv_at hl 0 rfl) ?_
    refine lv_iconst (v := 3) hx hb dX9_above_9 (by decide) ?_
    refine lv_icmp_eq (tgt := 18) hx hb dX9_above_10 (by decide) (fun c_2 => ?_) (fun c_2 => ?_)
    · skip
      have tc_2 : a.toInt = 3 := (fa_eq _ _).mp c_2
      refine lv_iconst (v := 1) hx hb dX9_above_18 (by decide) ?_
      refine lv_goto (tgt := 32) hx hb dX9_above_19 (by decide) ?_
      exact W.iret (v := (1 : Int32)) hx hb hr (fun t ht hW => ⟨(1 : Int32), rfl, (by first | omega | decide | (simp only [fa_lt, fa_le, fa_eq, and_true, true_and, and_false, false_and, not_true_eq_false, not_false_eq_true, li_0, li_1, li_2, li_3, li_4, li_5, li_6, li_7, li_8, li_9, li_10, li_12, li_15, li_16, li_20, li_30, li_34, li_38, li_40, li_63, li_64, li_65, li_78, li_120, li_1000, li_4000, li_10000, li_11077, li_255, li_65535, li_m1, li_m2, li_m1000000001, li_m1000000002, li_m1000000003, li_m1000000004, li_m1000000005, li_m1000000006, li_m1000000007, or_true, true_or, or_false, false_or, implies_true, true_implies, false_implies] <;> omega)), ht⟩) (fun _ h => absurd h List.not_mem_nil) dX9_above_32
    · skip
      have tc_2 : ¬ a.toInt = 3 := fun h => c_2 ((fa_eq _ _).mpr h)
      refine lv_iload_n hx hb dX9_above_13 rfl (lv_at hl 0 rfl) ?_
      refine lv_iconst (v := 5) hx hb dX9_above_14 (by decide) ?_
      refine lv_icmp_ne (tgt := 22) hx hb dX9_above_15 (by decide) (fun c_3 => ?_) (fun c_3 => ?_)
      · skip
        have tc_3 : ¬ a.toInt = 5 := fun h => c_3 ((fa_eq _ _).mpr h)
        refine lv_iload_n hx hb dX9_above_22 rfl (lv_at hl 0 rfl) ?_
        refine lv_iconst (v := 4) hx hb dX9_above_23 (by decide) ?_
        refine lv_icmp_ne (tgt := 31) hx hb dX9_above_24 (by decide) (fun c_4 => ?_) (fun c_4 => ?_)
        · skip
          have tc_4 : ¬ a.toInt = 4 := fun h => c_4 ((fa_eq _ _).mpr h)
          refine lv_iconst (v := 0) hx hb dX9_above_31 (by decide) ?_
          exact W.iret (v := (0 : Int32)) hx hb hr (fun t ht hW => ⟨(0 : Int32), rfl, (by first | omega | decide | (simp only [fa_lt, fa_le, fa_eq, and_true, true_and, and_false, false_and, not_true_eq_false, not_false_eq_true, li_0, li_1, li_2, li_3, li_4, li_5, li_6, li_7, li_8, li_9, li_10, li_12, li_15, li_16, li_20, li_30, li_34, li_38, li_40, li_63, li_64, li_65, li_78, li_120, li_1000, li_4000, li_10000, li_11077, li_255, li_65535, li_m1, li_m2, li_m1000000001, li_m1000000002, li_m1000000003, li_m1000000004, li_m1000000005, li_m1000000006, li_m1000000007, or_true, true_or, or_false, false_or, implies_true, true_implies, false_implies] <;> omega)), ht⟩) (fun _ h => absurd h List.not_mem_nil) dX9_above_32
        · skip
          have tc_4 : a.toInt = 4 := (fa_eq _ _).mp c_4
          refine lv_iconst (v := 2) hx hb dX9_above_27 (by decide) ?_
          refine lv_goto (tgt := 32) hx hb dX9_above_28 (by decide) ?_
          exact W.iret (v := (2 : Int32)) hx hb hr (fun t ht hW => ⟨(2 : Int32), rfl, (by first | omega | decide | (simp only [fa_lt, fa_le, fa_eq, and_true, true_and, and_false, false_and, not_true_eq_false, not_false_eq_true, li_0, li_1, li_2, li_3, li_4, li_5, li_6, li_7, li_8, li_9, li_10, li_12, li_15, li_16, li_20, li_30, li_34, li_38, li_40, li_63, li_64, li_65, li_78, li_120, li_1000, li_4000, li_10000, li_11077, li_255, li_65535, li_m1, li_m2, li_m1000000001, li_m1000000002, li_m1000000003, li_m1000000004, li_m1000000005, li_m1000000006, li_m1000000007, or_true, true_or, or_false, false_or, implies_true, true_implies, false_implies] <;> omega)), ht⟩) (fun _ h => absurd h List.not_mem_nil) dX9_above_32
      · skip
        have tc_3 : a.toInt = 5 := (fa_eq _ _).mp c_3
        refine lv_iconst (v := 1) hx hb dX9_above_18 (by decide) ?_
        refine lv_goto (tgt := 32) hx hb dX9_above_19 (by decide) ?_
        exact W.iret (v := (1 : Int32)) hx hb hr (fun t ht hW => ⟨(1 : Int32), rfl, (by first | omega | decide | (simp only [fa_lt, fa_le, fa_eq, and_true, true_and, and_false, false_and, not_true_eq_false, not_false_eq_true, li_0, li_1, li_2, li_3, li_4, li_5, li_6, li_7, li_8, li_9, li_10, li_12, li_15, li_16, li_20, li_30, li_34, li_38, li_40, li_63, li_64, li_65, li_78, li_120, li_1000, li_4000, li_10000, li_11077, li_255, li_65535, li_m1, li_m2, li_m1000000001, li_m1000000002, li_m1000000003, li_m1000000004, li_m1000000005, li_m1000000006, li_m1000000007, or_true, true_or, or_false, false_or, implies_true, true_implies, false_implies] <;> omega)), ht⟩) (fun _ h => absurd h List.not_mem_nil) dX9_above_32
  · skip
    have tc_1 : a.toInt = 0 := (fa_eq _ _).mp c_1
    refine lv_iconst (v := (-1)) hx hb dX9_above_4 (by decide) ?_
    refine lv_goto (tgt := 32) hx hb dX9_above_5 (by decide) ?_
    exact W.iret (v := ((-1) : Int32)) hx hb hr (fun t ht hW => ⟨((-1) : Int32), rfl, (by first | omega | decide | (simp only [fa_lt, fa_le, fa_eq, and_true, true_and, and_false, false_and, not_true_eq_false, not_false_eq_true, li_0, li_1, li_2, li_3, li_4, li_5, li_6, li_7, li_8, li_9, li_10, li_12, li_15, li_16, li_20, li_30, li_34, li_38, li_40, li_63, li_64, li_65, li_78, li_120, li_1000, li_4000, li_10000, li_11077, li_255, li_65535, li_m1, li_m2, li_m1000000001, li_m1000000002, li_m1000000003, li_m1000000004, li_m1000000005, li_m1000000006, li_m1000000007, or_true, true_or, or_false, false_or, implies_true, true_implies, false_implies] <;> omega)), ht⟩) (fun _ h => absurd h List.not_mem_nil) dX9_above_32

def w_m_as : List Cond := .code yX9_as cX9_as 4 (some .int) :: (([.methodLink RX9 93 yX9_isShape, .instanceMethod yX9_isShape, .selects RX9 yX9_isShape yX9_isShape, .initialized RX9, .code yX9_isShape cX9_isShape 2 (some .boolean), .fieldLink RX9 9 "LampShapesModel" "now" "[I", .methodLink RX9 75 yX9_within, .static yX9_within, .code yX9_within cX9_within 3 (some .boolean), .constant RX9 74 (-1000000001), .methodLink RX9 84 yX9_finding, .instanceMethod yX9_finding, .selects RX9 yX9_finding yX9_finding, .code yX9_finding cX9_finding 2 (some .int), .fieldLink RX9 23 "LampShapesModel" "found" "[I", .methodLink RX9 79 yX9_isKind, .static yX9_isKind, .code yX9_isKind cX9_isKind 1 (some .boolean), .methodLink RX9 99 yX9_shapeIs, .instanceMethod yX9_shapeIs, .selects RX9 yX9_shapeIs yX9_shapeIs, .code yX9_shapeIs cX9_shapeIs 3 (some .int), .constant RX9 108 (-1000000003), .methodLink RX9 105 yX9_above, .static yX9_above, .code yX9_above cX9_above 1 (some .int)] : List Cond) ++ wsX90)
set_option maxRecDepth 20000 in
theorem g_m_as_m_isShape_93 : GoodIn w_m_as (wsV RX9 93 RX9 yX9_isShape w_m_isShape) := goodIn_r _ [1, 2, 3, 4, 5, 6, 7, 8, 4, 9, 27, 28, 29, 30, 31, 32, 33, 34, 35, 36, 37, 38, 39, 40, 41, 42, 43, 44, 45, 46, 47, 48, 49, 50, 51, 52, 53, 54] rfl (by decide +kernel)
set_option maxRecDepth 20000 in
theorem g_m_as_mf_beyond_84 : GoodIn w_m_as (wsV RX9 84 RX9 yX9_finding w_mf_beyond) := goodIn_r _ [11, 12, 13, 4, 14, 15, 10, 27, 28, 29, 30, 31, 32, 33, 34, 35, 36, 37, 38, 39, 40, 41, 42, 43, 44, 45, 46, 47, 48, 49, 50, 51, 52, 53, 54] rfl (by decide +kernel)
set_option maxRecDepth 20000 in
theorem g_m_as_m_isKind_79 : GoodIn w_m_as (va_wsS RX9 79 yX9_isKind w_m_isKind) := goodIn_r _ [16, 17, 4, 18, 7, 8, 4, 9] rfl (by decide +kernel)
set_option maxRecDepth 20000 in
theorem g_m_as_m_shapeIs_99 : GoodIn w_m_as (wsV RX9 99 RX9 yX9_shapeIs w_m_shapeIs) := goodIn_r _ [19, 20, 21, 4, 22, 6, 27, 28, 29, 30, 31, 32, 33, 34, 35, 36, 37, 38, 39, 40, 41, 42, 43, 44, 45, 46, 47, 48, 49, 50, 51, 52, 53, 54] rfl (by decide +kernel)
set_option maxRecDepth 20000 in
theorem g_m_as_mf_kind_84 : GoodIn w_m_as (wsV RX9 84 RX9 yX9_finding w_mf_kind) := goodIn_r _ [11, 12, 13, 4, 14, 15, 10, 27, 28, 29, 30, 31, 32, 33, 34, 35, 36, 37, 38, 39, 40, 41, 42, 43, 44, 45, 46, 47, 48, 49, 50, 51, 52, 53, 54] rfl (by decide +kernel)
set_option maxRecDepth 20000 in
theorem g_m_as_m_above2_105 : GoodIn w_m_as (va_wsS RX9 105 yX9_above w_m_above2) := goodIn_r _ [24, 25, 4, 26] rfl (by decide +kernel)
set_option maxHeartbeats 4000000 in
set_option maxRecDepth 100000 in
theorem m_as (l : Launch) (dC : Nat → ClassId) (dI : Nat → Nat → Nat) (ad : Nat → Nat) (h0 : Nat) (a : Int32) (b : Int32) (a0 : Nat) (v1 : Value) (v2 : Value) (v3 : Value) (v4 : Value) (t0 : Nat) (v6 : Value) (v7 : Value) (v8 : Value) (v9 : Value) (v10 : Value) (v11 : Value) (v12 : Value) (v13 : Value) (v14 : Value) (v15 : Value) (v16 : Value) (v17 : Value) (v18 : Value) (v19 : Value) (v20 : Value) (v21 : Value) (v22 : Value) (v23 : Value) (v24 : Value) (v25 : Value) (v26 : Value) (v27 : Value) (tc : ClassId) (tf : Nat → Int32) (ac : ClassId) (nf : Nat → Int32) (sz : Nat) (hI : mI nf) : Met l yX9_as w_m_as ({ frames := 2, cells := 0, slots := 0, locals := 43 } : Room) (va_Pc [.ref h0, .int a, .int b] (preM dC dI ad [(tc, .int), (ac, .int)] [(h0, .inr (7, [.ref a0, v1, v2, v3, v4, .ref t0, v6, v7, v8, v9, v10, v11, v12, v13, v14, v15, v16, v17, v18, v19, v20, v21, v22, v23, v24, v25, v26, v27])), (t0, .inl (tc, 8, .inl tf)), (a0, .inl (ac, 38, .inl nf))] sz)) (va_Qi (fun (r : Int32) (_ : Unit) => True) (fun _ t => ∃ (tg : Nat → Int32), va_P (dC, dI) vwCl [(h0, .inr (7, [.ref a0, v1, v2, v3, v4, .ref t0, v6, v7, v8, v9, v10, v11, v12, v13, v14, v15, v16, v17, v18, v19, v20, v21, v22, v23, v24, v25, v26, v27])), (t0, .inl (tc, 8, .inl tg)), (a0, .inl (ac, 38, .inl nf))] t.heap ∧ va_K (dC, dI) vwCl [(tc, .int), (ac, .int)] t ∧ va_D (va_A [(h0, .inr (7, [.ref a0, v1, v2, v3, v4, .ref t0, v6, v7, v8, v9, v10, v11, v12, v13, v14, v15, v16, v17, v18, v19, v20, v21, v22, v23, v24, v25, v26, v27])), (t0, .inl (tc, 8, .inl tf)), (a0, .inl (ac, 38, .inl nf))] sz) [(h0, .inr (7, [.ref a0, v1, v2, v3, v4, .ref t0, v6, v7, v8, v9, v10, v11, v12, v13, v14, v15, v16, v17, v18, v19, v20, v21, v22, v23, v24, v25, v26, v27])), (t0, .inl (tc, 8, .inl tg)), (a0, .inl (ac, 38, .inl nf))]) (va_A [(h0, .inr (7, [.ref a0, v1, v2, v3, v4, .ref t0, v6, v7, v8, v9, v10, v11, v12, v13, v14, v15, v16, v17, v18, v19, v20, v21, v22, v23, v24, v25, v26, v27])), (t0, .inl (tc, 8, .inl tf)), (a0, .inl (ac, 38, .inl nf))] sz)) 0 0 (va_A [(h0, .inr (7, [.ref a0, v1, v2, v3, v4, .ref t0, v6, v7, v8, v9, v10, v11, v12, v13, v14, v15, v16, v17, v18, v19, v20, v21, v22, v23, v24, v25, v26, v27])), (t0, .inl (tc, 8, .inl tf)), (a0, .inl (ac, 38, .inl nf))] sz) := by
  refine Met.ofW (cc := cX9_as) (maxL := 4) (ret := (some .int)) (by decide) rfl ?_
  intro p e s m args below meth c s₁ B hml hv
  obtain ⟨rfl, hsz, hP, hK, hD0, hev⟩ := hv
  have hx := B.exec
  have hb := B.bytes
  have hr := B.returns
  have hts := atoms_spec (ws := w_m_as) B.pre
  have hown : s.vm.findClass RX9 = some m.cls := findClass_of_methodNamed B.named
  have hlocks := B.notSynchronized
  have inX9 : ∀ w ∈ wsX90, w ∈ w_m_as := fun w h => List.mem_cons_of_mem _ (List.mem_append_right _ h)
  subst hsz
  have hD := hD0.self (sz := s.heap.size)
  generalize hAe : va_A [(h0, .inr (7, [.ref a0, v1, v2, v3, v4, .ref t0, v6, v7, v8, v9, v10, v11, v12, v13, v14, v15, v16, v17, v18, v19, v20, v21, v22, v23, v24, v25, v26, v27])), (t0, .inl (tc, 8, .inl tf)), (a0, .inl (ac, 38, .inl nf))] s.heap.size = A at hD ⊢
  have hA : ∀ q : Nat, s.heap.size ≤ q → A q := fun q h => by rw [← hAe]; exact Or.inr h
  have hS : va_S A s.heap s.heap [] := va_S.rf
  have hP : va_P (dC, dI) vwCl [(h0, .inr (7, [.ref a0, v1, v2, v3, v4, .ref t0, v6, v7, v8, v9, v10, v11, v12, v13, v14, v15, v16, v17, v18, v19, v20, v21, v22, v23, v24, v25, v26, v27])), (t0, .inl (tc, 8, .inl tf)), (a0, .inl (ac, 38, .inl nf))] s.heap := hP
  have hl := lv_entry ([.ref h0, .int a, .int b]) (n := 4) (Nat.le_of_ble_eq_true rfl)
  rw [lg_entry_eq]
  generalize (lg_sl ([.ref h0, .int a, .int b]) ++ List.replicate (4 - (lg_sl ([.ref h0, .int a, .int b])).length) Slot.unset).toArray = ls at hl ⊢
  have hl : lv_has ls 4 [(0, .ref h0), (1, .int a), (2, .int b)] := hl
  refine lv_aload_n hx hb dX9_as_0 rfl (lv_at hl 0 rfl) ?_
  refine lv_iload_n hx hb dX9_as_1 rfl (lv_at hl 1 rfl) ?_
  have hPc := hP.sub (ws' := [(h0, .inr (7, [.ref a0, v1, v2, v3, v4, .ref t0, v6, v7, v8, v9, v10, v11, v12, v13, v14, v15, v16, v17, v18, v19, v20, v21, v22, v23, v24, v25, v26, v27])), (a0, .inl (ac, 38, .inl nf))]) [0, 2] rfl
  have hKc := hK.sub (tys' := [(ac, .int)]) [1] rfl
  refine vp_callSi (W.runV (As := [.int a]) (rest := []) ⟨hx, hb, hml, hown, hts⟩ (m_isShape l dC dI ad h0 a a0 v1 v2 v3 v4 (.ref t0) v6 v7 v8 v9 v10 v11 v12 v13 v14 v15 v16 v17 v18 v19 v20 v21 v22 v23 v24 v25 v26 v27 ac nf hI) (cwV 1 hts g_m_as_m_isShape_93 rfl rfl rfl (by decide +kernel) ⟨(Nat.le_of_ble_eq_true rfl), (Nat.le_of_ble_eq_true rfl)⟩) ⟨preS_blind, va_recv hKc hPc (ci := 7) (q0 := 0) rfl rfl, fun U hU hW => ⟨rfl, preS_at hU hW hPc hKc hev⟩⟩ rfl rfl hl.1 rfl (lv_room (Nat.le_of_ble_eq_true rfl)) dX9_as_2 ⟨(Nat.le_of_ble_eq_true rfl), (Nat.le_of_ble_eq_true rfl)⟩) (fun r_1 hw => ?_)
  have hr_1 : (r_1.toInt = 1 ∧ 0 ≤ a.toInt ∧ a.toInt < (nf 0).toInt ∧ a.toInt ≤ 8) ∨ r_1.toInt = 0 := hw
  refine lv_if_eq (tgt := 15) hx hb dX9_as_5 (by decide) (fun c_2 => ?_) (fun c_2 => ?_)
  · skip
    have tc_2 : r_1.toInt = 0 := (fa_eq _ _).mp c_2
    refine lv_aload_n hx hb dX9_as_15 rfl (lv_at hl 0 rfl) ?_
    refine lv_ldc hx hb hown (hts _ (List.mem_of_getElem? (i := 10) rfl)) dX9_as_16 ?_
    have hPc := hP.sub (ws' := [(h0, .inr (7, [.ref a0, v1, v2, v3, v4, .ref t0, v6, v7, v8, v9, v10, v11, v12, v13, v14, v15, v16, v17, v18, v19, v20, v21, v22, v23, v24, v25, v26, v27])), (t0, .inl (tc, 8, .inl tf))]) [0, 1] rfl
    have hKc := hK.sub (tys' := [(tc, .int)]) [0] rfl
    have hDc := hD.sub (ws' := [(h0, .inr (7, [.ref a0, v1, v2, v3, v4, .ref t0, v6, v7, v8, v9, v10, v11, v12, v13, v14, v15, v16, v17, v18, v19, v20, v21, v22, v23, v24, v25, v26, v27])), (t0, .inl (tc, 8, .inl tf))]) [0, 1] (by decide) rfl
    have hFc := va_free (wc := [(h0, .inr (7, [.ref a0, v1, v2, v3, v4, .ref t0, v6, v7, v8, v9, v10, v11, v12, v13, v14, v15, v16, v17, v18, v19, v20, v21, v22, v23, v24, v25, v26, v27])), (t0, .inl (tc, 8, .inl tf))]) hD hS hA [0, 1] rfl
    refine va_calli (va_runV (As := [.int (-1000000001)]) (rest := []) ⟨hx, hb, hml, hown, hts⟩ (mf_beyond l dC dI ad h0 (.ref a0) v1 v2 v3 v4 t0 v6 v7 v8 v9 v10 v11 v12 v13 v14 v15 v16 v17 v18 v19 v20 v21 v22 v23 v24 v25 v26 v27 tc tf s.heap.size ) (cwV 1 hts g_m_as_mf_beyond_84 rfl rfl rfl (by decide +kernel) ⟨(Nat.le_of_ble_eq_true rfl), (Nat.le_of_ble_eq_true rfl)⟩) ⟨preM_blind, va_recv hKc hPc (ci := 7) (q0 := 0) rfl rfl, fun U hU hW => ⟨rfl, preM_at hU hW hPc hKc hDc hev⟩⟩ rfl rfl hl.1 rfl (lv_room (Nat.le_of_ble_eq_true rfl)) dX9_as_18 ⟨(Nat.le_of_ble_eq_true rfl), (Nat.le_of_ble_eq_true rfl)⟩) hS (fun q _ h => hFc q h) hFc (fun r_3 u t H1 locs ht hvm hw hB hz1 hk1 hS => ?_)
    obtain ⟨tg_4, hP1, hK1, hD1⟩ := hB
    rw [ht] at hP1
    have hK1 := va_K.moved hvm.symm hK1
    obtain ⟨hP, hD⟩ := va_join (wr := [(a0, .inl (ac, 38, .inl nf))]) (w1 := [(h0, .inr (7, [.ref a0, v1, v2, v3, v4, .ref t0, v6, v7, v8, v9, v10, v11, v12, v13, v14, v15, v16, v17, v18, v19, v20, v21, v22, v23, v24, v25, v26, v27])), (t0, .inl (tc, 8, .inl tg_4))]) hP hD [0, 1] [2] rfl rfl (by decide) (by decide) hk1 hFc hP1 hD1
    generalize H1 = H at hP hS ⊢
    have hP : va_P (dC, dI) vwCl [(a0, .inl (ac, 38, .inl nf)), (h0, .inr (7, [.ref a0, v1, v2, v3, v4, .ref t0, v6, v7, v8, v9, v10, v11, v12, v13, v14, v15, v16, v17, v18, v19, v20, v21, v22, v23, v24, v25, v26, v27])), (t0, .inl (tc, 8, .inl tg_4))] H := hP
    have hD : va_D A [(a0, .inl (ac, 38, .inl nf)), (h0, .inr (7, [.ref a0, v1, v2, v3, v4, .ref t0, v6, v7, v8, v9, v10, v11, v12, v13, v14, v15, v16, v17, v18, v19, v20, v21, v22, v23, v24, v25, v26, v27])), (t0, .inl (tc, 8, .inl tg_4))] := hD
    subst hw
    have hP9 := hP.sub (ws' := [(h0, .inr (7, [.ref a0, v1, v2, v3, v4, .ref t0, v6, v7, v8, v9, v10, v11, v12, v13, v14, v15, v16, v17, v18, v19, v20, v21, v22, v23, v24, v25, v26, v27])), (t0, .inl (tc, 8, .inl tg_4)), (a0, .inl (ac, 38, .inl nf))]) [1, 2, 0] rfl
    have hD9 := hD.sub (ws' := [(h0, .inr (7, [.ref a0, v1, v2, v3, v4, .ref t0, v6, v7, v8, v9, v10, v11, v12, v13, v14, v15, v16, v17, v18, v19, v20, v21, v22, v23, v24, v25, v26, v27])), (t0, .inl (tc, 8, .inl tg_4)), (a0, .inl (ac, 38, .inl nf))]) [1, 2, 0] (by decide) rfl
    have hK9 := hK.sub (tys' := [(tc, .int), (ac, .int)]) [0, 1] rfl
    exact W.iret (v := ((-1000000001) : Int32)) hx hb hr (fun t ht hW => ⟨⟨((-1000000001) : Int32), (), rfl, trivial, tg_4, by rw [ht]; exact hP9, va_K.moved hW.alike hK9, hD9⟩, hS.F ht⟩) hS.2.2 dX9_as_21
  · skip
    have tc_2 : ¬ r_1.toInt = 0 := fun h => c_2 ((fa_eq _ _).mpr h)
    have i_5 : 0 ≤ a.toInt ∧ a.toInt < (nf 0).toInt ∧ a.toInt ≤ 8 := by omega
    refine lv_iload_n hx hb dX9_as_8 rfl (lv_at hl 2 rfl) ?_
    have hPc := hP.sub (ws' := []) [] rfl
    have hKc := hK.sub (tys' := []) [] rfl
    refine vp_callSi (W.runS (As := [.int b]) (rest := []) ⟨hx, hb, hml, hown, hts⟩ (m_isKind l dC dI ad b ) (va_cwS 1 hts g_m_as_m_isKind_79 rfl rfl rfl (by decide +kernel) ⟨(Nat.le_of_ble_eq_true rfl), (Nat.le_of_ble_eq_true rfl)⟩) ⟨preS_blind, fun U hU hW => ⟨rfl, preS_at hU hW hPc hKc hev⟩⟩ rfl rfl hl.1 rfl (lv_room (Nat.le_of_ble_eq_true rfl)) dX9_as_9 ⟨(Nat.le_of_ble_eq_true rfl), (Nat.le_of_ble_eq_true rfl)⟩) (fun r_6 hw => ?_)
    refine lv_if_ne (tgt := 22) hx hb dX9_as_12 (by decide) (fun c_7 => ?_) (fun c_7 => ?_)
    · skip
      have tc_7 : ¬ r_6.toInt = 0 := fun h => c_7 ((fa_eq _ _).mpr h)
      refine lv_aload_n hx hb dX9_as_22 rfl (lv_at hl 0 rfl) ?_
      refine lv_iload_n hx hb dX9_as_23 rfl (lv_at hl 1 rfl) ?_
      refine lv_iconst (v := 0) hx hb dX9_as_24 (by decide) ?_
      have hPc := hP.sub (ws' := [(h0, .inr (7, [.ref a0, v1, v2, v3, v4, .ref t0, v6, v7, v8, v9, v10, v11, v12, v13, v14, v15, v16, v17, v18, v19, v20, v21, v22, v23, v24, v25, v26, v27])), (a0, .inl (ac, 38, .inl nf))]) [0, 2] rfl
      have hKc := hK.sub (tys' := [(ac, .int)]) [1] rfl
      refine vp_callSi (W.runV (As := [.int a, .int 0]) (rest := []) ⟨hx, hb, hml, hown, hts⟩ (m_shapeIs l dC dI ad h0 a 0 a0 v1 v2 v3 v4 (.ref t0) v6 v7 v8 v9 v10 v11 v12 v13 v14 v15 v16 v17 v18 v19 v20 v21 v22 v23 v24 v25 v26 v27 ac nf (by first | omega | decide | (simp only [fa_lt, fa_le, fa_eq, and_true, true_and, and_false, false_and, not_true_eq_false, not_false_eq_true, li_0, li_1, li_2, li_3, li_4, li_5, li_6, li_7, li_8, li_9, li_10, li_12, li_15, li_16, li_20, li_30, li_34, li_38, li_40, li_63, li_64, li_65, li_78, li_120, li_1000, li_4000, li_10000, li_11077, li_255, li_65535, li_m1, li_m2, li_m1000000001, li_m1000000002, li_m1000000003, li_m1000000004, li_m1000000005, li_m1000000006, li_m1000000007, or_true, true_or, or_false, false_or, implies_true, true_implies, false_implies] <;> omega)) (by first | omega | decide | (simp only [fa_lt, fa_le, fa_eq, and_true, true_and, and_false, false_and, not_true_eq_false, not_false_eq_true, li_0, li_1, li_2, li_3, li_4, li_5, li_6, li_7, li_8, li_9, li_10, li_12, li_15, li_16, li_20, li_30, li_34, li_38, li_40, li_63, li_64, li_65, li_78, li_120, li_1000, li_4000, li_10000, li_11077, li_255, li_65535, li_m1, li_m2, li_m1000000001, li_m1000000002, li_m1000000003, li_m1000000004, li_m1000000005, li_m1000000006, li_m1000000007, or_true, true_or, or_false, false_or, implies_true, true_implies, false_implies] <;> omega))) (cwV 2 hts g_m_as_m_shapeIs_99 rfl rfl rfl (by decide +kernel) ⟨(Nat.le_of_ble_eq_true rfl), (Nat.le_of_ble_eq_true rfl)⟩) ⟨preS_blind, va_recv hKc hPc (ci := 7) (q0 := 0) rfl rfl, fun U hU hW => ⟨rfl, preS_at hU hW hPc hKc hev⟩⟩ rfl rfl hl.1 rfl (lv_room (Nat.le_of_ble_eq_true rfl)) dX9_as_25 ⟨(Nat.le_of_ble_eq_true rfl), (Nat.le_of_ble_eq_true rfl)⟩) (fun r_8 hw => ?_)
      refine lv_istore_n (lv' := [(3, .int r_8), (0, .ref h0), (1, .int a), (2, .int b)]) hx hb dX9_as_28 rfl hl (by decide) rfl (fun ls hl => ?_)
      refine pp_loop (ι := Int32) (fun v3_29 => (v3_29.toInt + 1).toNat) (fun v3_29 H locs ls => va_P (dC, dI) vwCl [(h0, .inr (7, [.ref a0, v1, v2, v3, v4, .ref t0, v6, v7, v8, v9, v10, v11, v12, v13, v14, v15, v16, v17, v18, v19, v20, v21, v22, v23, v24, v25, v26, v27])), (t0, .inl (tc, 8, .inl tf)), (a0, .inl (ac, 38, .inl nf))] H ∧ va_D A [(h0, .inr (7, [.ref a0, v1, v2, v3, v4, .ref t0, v6, v7, v8, v9, v10, v11, v12, v13, v14, v15, v16, v17, v18, v19, v20, v21, v22, v23, v24, v25, v26, v27])), (t0, .inl (tc, 8, .inl tf)), (a0, .inl (ac, 38, .inl nf))] ∧ va_S A s.heap H locs ∧ lv_has ls 4 [(3, .int v3_29), (0, .ref h0), (1, .int a), (2, .int b)]) ?_ r_8 _ _ _ ⟨hP.sub [0, 1, 2] rfl, hD.sub [0, 1, 2] (by decide) rfl, hS, lv_sub hl [0, 1, 2, 3] rfl⟩
      intro k_9 ihk_9 u H locs ls hm hI
      obtain ⟨v3_29, rfl⟩ : ∃ z, z = u := ⟨_, rfl⟩
      obtain ⟨hP, hD, hS, hl⟩ := hI
      have hmk_9 : (v3_29.toInt + 1).toNat < k_9 + 1 := hm
      clear hm
      have hl : lv_has ls 4 [(3, .int v3_29), (0, .ref h0), (1, .int a), (2, .int b)] := hl
      have hP : va_P (dC, dI) vwCl [(h0, .inr (7, [.ref a0, v1, v2, v3, v4, .ref t0, v6, v7, v8, v9, v10, v11, v12, v13, v14, v15, v16, v17, v18, v19, v20, v21, v22, v23, v24, v25, v26, v27])), (t0, .inl (tc, 8, .inl tf)), (a0, .inl (ac, 38, .inl nf))] H := hP
      have hD : va_D A [(h0, .inr (7, [.ref a0, v1, v2, v3, v4, .ref t0, v6, v7, v8, v9, v10, v11, v12, v13, v14, v15, v16, v17, v18, v19, v20, v21, v22, v23, v24, v25, v26, v27])), (t0, .inl (tc, 8, .inl tf)), (a0, .inl (ac, 38, .inl nf))] := hD
      refine lv_iload_n hx hb dX9_as_29 rfl (lv_at hl 0 rfl) ?_
      refine lv_if_lt (tgt := 46) hx hb dX9_as_30 (by decide) (fun c_10 => ?_) (fun c_10 => ?_)
      · skip
        have tc_10 : v3_29.toInt < 0 := (fa_lt _ _).mp c_10
        refine lv_iload_n hx hb dX9_as_46 rfl (lv_at hl 0 rfl) ?_
        refine lv_if_ge (tgt := 59) hx hb dX9_as_47 (by decide) (fun c_11 => ?_) (fun c_11 => ?_)
        · skip
          have tc_11 : 0 ≤ v3_29.toInt := (fa_le _ _).mp c_11
          exfalso; omega
        · skip
          have tc_11 : ¬ 0 ≤ v3_29.toInt := fun h => c_11 ((fa_le _ _).mpr h)
          refine lv_aload_n hx hb dX9_as_50 rfl (lv_at hl 1 rfl) ?_
          refine lv_ldc hx hb hown (hts _ (List.mem_of_getElem? (i := 23) rfl)) dX9_as_51 ?_
          have hPc := hP.sub (ws' := [(h0, .inr (7, [.ref a0, v1, v2, v3, v4, .ref t0, v6, v7, v8, v9, v10, v11, v12, v13, v14, v15, v16, v17, v18, v19, v20, v21, v22, v23, v24, v25, v26, v27])), (t0, .inl (tc, 8, .inl tf))]) [0, 1] rfl
          have hKc := hK.sub (tys' := [(tc, .int)]) [0] rfl
          have hDc := hD.sub (ws' := [(h0, .inr (7, [.ref a0, v1, v2, v3, v4, .ref t0, v6, v7, v8, v9, v10, v11, v12, v13, v14, v15, v16, v17, v18, v19, v20, v21, v22, v23, v24, v25, v26, v27])), (t0, .inl (tc, 8, .inl tf))]) [0, 1] (by decide) rfl
          have hFc := va_free (wc := [(h0, .inr (7, [.ref a0, v1, v2, v3, v4, .ref t0, v6, v7, v8, v9, v10, v11, v12, v13, v14, v15, v16, v17, v18, v19, v20, v21, v22, v23, v24, v25, v26, v27])), (t0, .inl (tc, 8, .inl tf))]) hD hS hA [0, 1] rfl
          refine va_calli (va_runV (As := [.int (-1000000003)]) (rest := []) ⟨hx, hb, hml, hown, hts⟩ (mf_kind l dC dI ad h0 (.ref a0) v1 v2 v3 v4 t0 v6 v7 v8 v9 v10 v11 v12 v13 v14 v15 v16 v17 v18 v19 v20 v21 v22 v23 v24 v25 v26 v27 tc tf H.size ) (cwV 1 hts g_m_as_mf_kind_84 rfl rfl rfl (by decide +kernel) ⟨(Nat.le_of_ble_eq_true rfl), (Nat.le_of_ble_eq_true rfl)⟩) ⟨preM_blind, va_recv hKc hPc (ci := 7) (q0 := 0) rfl rfl, fun U hU hW => ⟨rfl, preM_at hU hW hPc hKc hDc hev⟩⟩ rfl rfl hl.1 rfl (lv_room (Nat.le_of_ble_eq_true rfl)) dX9_as_53 ⟨(Nat.le_of_ble_eq_true rfl), (Nat.le_of_ble_eq_true rfl)⟩) hS (fun q _ h => hFc q h) hFc (fun r_12 u t H1 locs ht hvm hw hB hz1 hk1 hS => ?_)
          obtain ⟨tg_13, hP1, hK1, hD1⟩ := hB
          rw [ht] at hP1
          have hK1 := va_K.moved hvm.symm hK1
          obtain ⟨hP, hD⟩ := va_join (wr := [(a0, .inl (ac, 38, .inl nf))]) (w1 := [(h0, .inr (7, [.ref a0, v1, v2, v3, v4, .ref t0, v6, v7, v8, v9, v10, v11, v12, v13, v14, v15, v16, v17, v18, v19, v20, v21, v22, v23, v24, v25, v26, v27])), (t0, .inl (tc, 8, .inl tg_13))]) hP hD [0, 1] [2] rfl rfl (by decide) (by decide) hk1 hFc hP1 hD1
          generalize H1 = H at hP hS ⊢
          have hP : va_P (dC, dI) vwCl [(a0, .inl (ac, 38, .inl nf)), (h0, .inr (7, [.ref a0, v1, v2, v3, v4, .ref t0, v6, v7, v8, v9, v10, v11, v12, v13, v14, v15, v16, v17, v18, v19, v20, v21, v22, v23, v24, v25, v26, v27])), (t0, .inl (tc, 8, .inl tg_13))] H := hP
          have hD : va_D A [(a0, .inl (ac, 38, .inl nf)), (h0, .inr (7, [.ref a0, v1, v2, v3, v4, .ref t0, v6, v7, v8, v9, v10, v11, v12, v13, v14, v15, v16, v17, v18, v19, v20, v21, v22, v23, v24, v25, v26, v27])), (t0, .inl (tc, 8, .inl tg_13))] := hD
          subst hw
          refine lv_goto (tgt := 65) hx hb dX9_as_56 (by decide) ?_
          have hP9 := hP.sub (ws' := [(h0, .inr (7, [.ref a0, v1, v2, v3, v4, .ref t0, v6, v7, v8, v9, v10, v11, v12, v13, v14, v15, v16, v17, v18, v19, v20, v21, v22, v23, v24, v25, v26, v27])), (t0, .inl (tc, 8, .inl tg_13)), (a0, .inl (ac, 38, .inl nf))]) [1, 2, 0] rfl
          have hD9 := hD.sub (ws' := [(h0, .inr (7, [.ref a0, v1, v2, v3, v4, .ref t0, v6, v7, v8, v9, v10, v11, v12, v13, v14, v15, v16, v17, v18, v19, v20, v21, v22, v23, v24, v25, v26, v27])), (t0, .inl (tc, 8, .inl tg_13)), (a0, .inl (ac, 38, .inl nf))]) [1, 2, 0] (by decide) rfl
          have hK9 := hK.sub (tys' := [(tc, .int), (ac, .int)]) [0, 1] rfl
          exact W.iret (v := ((-1000000003) : Int32)) hx hb hr (fun t ht hW => ⟨⟨((-1000000003) : Int32), (), rfl, trivial, tg_13, by rw [ht]; exact hP9, va_K.moved hW.alike hK9, hD9⟩, hS.F ht⟩) hS.2.2 dX9_as_65
      · skip
        have tc_10 : ¬ v3_29.toInt < 0 := fun h => c_10 ((fa_lt _ _).mpr h)
        refine lv_iload_n hx hb dX9_as_33 rfl (lv_at hl 0 rfl) ?_
        refine lv_iload_n hx hb dX9_as_34 rfl (lv_at hl 3 rfl) ?_
        have rc_14_x := pp_rng v3_29
        have rc_14_y := pp_rng b
        refine lv_icmp_eq (tgt := 46) hx hb dX9_as_35 (by decide) (fun c_14 => ?_) (fun c_14 => ?_)
        · skip
          have tc_14 : v3_29.toInt = b.toInt := (fa_eq _ _).mp c_14
          refine lv_iload_n hx hb dX9_as_46 rfl (lv_at hl 0 rfl) ?_
          refine lv_if_ge (tgt := 59) hx hb dX9_as_47 (by decide) (fun c_15 => ?_) (fun c_15 => ?_)
          · skip
            have tc_15 : 0 ≤ v3_29.toInt := (fa_le _ _).mp c_15
            refine lv_aload_n hx hb dX9_as_59 rfl (lv_at hl 1 rfl) ?_
            refine lv_iload_n hx hb dX9_as_60 rfl (lv_at hl 2 rfl) ?_
            refine lv_iconst (v := 1) hx hb dX9_as_61 (by decide) ?_
            have hPc := hP.sub (ws' := [(h0, .inr (7, [.ref a0, v1, v2, v3, v4, .ref t0, v6, v7, v8, v9, v10, v11, v12, v13, v14, v15, v16, v17, v18, v19, v20, v21, v22, v23, v24, v25, v26, v27])), (a0, .inl (ac, 38, .inl nf))]) [0, 2] rfl
            have hKc := hK.sub (tys' := [(ac, .int)]) [1] rfl
            refine vp_callSi (W.runV (As := [.int a, .int 1]) (rest := []) ⟨hx, hb, hml, hown, hts⟩ (m_shapeIs l dC dI ad h0 a 1 a0 v1 v2 v3 v4 (.ref t0) v6 v7 v8 v9 v10 v11 v12 v13 v14 v15 v16 v17 v18 v19 v20 v21 v22 v23 v24 v25 v26 v27 ac nf (by first | omega | decide | (simp only [fa_lt, fa_le, fa_eq, and_true, true_and, and_false, false_and, not_true_eq_false, not_false_eq_true, li_0, li_1, li_2, li_3, li_4, li_5, li_6, li_7, li_8, li_9, li_10, li_12, li_15, li_16, li_20, li_30, li_34, li_38, li_40, li_63, li_64, li_65, li_78, li_120, li_1000, li_4000, li_10000, li_11077, li_255, li_65535, li_m1, li_m2, li_m1000000001, li_m1000000002, li_m1000000003, li_m1000000004, li_m1000000005, li_m1000000006, li_m1000000007, or_true, true_or, or_false, false_or, implies_true, true_implies, false_implies] <;> omega)) (by first | omega | decide | (simp only [fa_lt, fa_le, fa_eq, and_true, true_and, and_false, false_and, not_true_eq_false, not_false_eq_true, li_0, li_1, li_2, li_3, li_4, li_5, li_6, li_7, li_8, li_9, li_10, li_12, li_15, li_16, li_20, li_30, li_34, li_38, li_40, li_63, li_64, li_65, li_78, li_120, li_1000, li_4000, li_10000, li_11077, li_255, li_65535, li_m1, li_m2, li_m1000000001, li_m1000000002, li_m1000000003, li_m1000000004, li_m1000000005, li_m1000000006, li_m1000000007, or_true, true_or, or_false, false_or, implies_true, true_implies, false_implies] <;> omega))) (cwV 2 hts g_m_as_m_shapeIs_99 rfl rfl rfl (by decide +kernel) ⟨(Nat.le_of_ble_eq_true rfl), (Nat.le_of_ble_eq_true rfl)⟩) ⟨preS_blind, va_recv hKc hPc (ci := 7) (q0 := 0) rfl rfl, fun U hU hW => ⟨rfl, preS_at hU hW hPc hKc hev⟩⟩ rfl rfl hl.1 rfl (lv_room (Nat.le_of_ble_eq_true rfl)) dX9_as_62 ⟨(Nat.le_of_ble_eq_true rfl), (Nat.le_of_ble_eq_true rfl)⟩) (fun r_16 hw => ?_)
            have hP9 := hP.sub (ws' := [(h0, .inr (7, [.ref a0, v1, v2, v3, v4, .ref t0, v6, v7, v8, v9, v10, v11, v12, v13, v14, v15, v16, v17, v18, v19, v20, v21, v22, v23, v24, v25, v26, v27])), (t0, .inl (tc, 8, .inl tf)), (a0, .inl (ac, 38, .inl nf))]) [0, 1, 2] rfl
            have hD9 := hD.sub (ws' := [(h0, .inr (7, [.ref a0, v1, v2, v3, v4, .ref t0, v6, v7, v8, v9, v10, v11, v12, v13, v14, v15, v16, v17, v18, v19, v20, v21, v22, v23, v24, v25, v26, v27])), (t0, .inl (tc, 8, .inl tf)), (a0, .inl (ac, 38, .inl nf))]) [0, 1, 2] (by decide) rfl
            have hK9 := hK.sub (tys' := [(tc, .int), (ac, .int)]) [0, 1] rfl
            exact W.iret (v := r_16) hx hb hr (fun t ht hW => ⟨⟨r_16, (), rfl, trivial, tf, by rw [ht]; exact hP9, va_K.moved hW.alike hK9, hD9⟩, hS.F ht⟩) hS.2.2 dX9_as_65
          · skip
            have tc_15 : ¬ 0 ≤ v3_29.toInt := fun h => c_15 ((fa_le _ _).mpr h)
            exfalso; omega
        · skip
          have tc_14 : ¬ v3_29.toInt = b.toInt := fun h => c_14 ((fa_eq _ _).mpr h)
          refine lv_iload_n hx hb dX9_as_38 rfl (lv_at hl 0 rfl) ?_
          have hPc := hP.sub (ws' := []) [] rfl
          have hKc := hK.sub (tys' := []) [] rfl
          refine vp_callSi (W.runS (As := [.int v3_29]) (rest := []) ⟨hx, hb, hml, hown, hts⟩ (m_above2 l dC dI ad v3_29 ) (va_cwS 1 hts g_m_as_m_above2_105 rfl rfl rfl (by decide +kernel) ⟨(Nat.le_of_ble_eq_true rfl), (Nat.le_of_ble_eq_true rfl)⟩) ⟨preS_blind, fun U hU hW => ⟨rfl, preS_at hU hW hPc hKc hev⟩⟩ rfl rfl hl.1 rfl (lv_room (Nat.le_of_ble_eq_true rfl)) dX9_as_39 ⟨(Nat.le_of_ble_eq_true rfl), (Nat.le_of_ble_eq_true rfl)⟩) (fun r_17 hw => ?_)
          have hr_17 : (v3_29.toInt = 0 ∧ r_17.toInt = (-1)) ∨ ((v3_29.toInt = 1 ∨ v3_29.toInt = 2) ∧ r_17.toInt = 0) ∨ ((v3_29.toInt < 0 ∨ 3 ≤ v3_29.toInt) ∧ 0 ≤ r_17.toInt ∧ r_17.toInt ≤ 2) := hw
          refine lv_istore_n (lv' := [(3, .int r_17), (0, .ref h0), (1, .int a), (2, .int b)]) hx hb dX9_as_42 rfl hl (by decide) rfl (fun ls hl => ?_)
          refine lv_goto (tgt := 29) hx hb dX9_as_43 (by decide) ?_
          exact ihk_9 r_17 _ _ _ (by show (r_17.toInt + 1).toNat < k_9; omega) ⟨hP.sub [0, 1, 2] rfl, hD.sub [0, 1, 2] (by decide) rfl, hS, lv_sub hl [0, 1, 2, 3] rfl⟩
    · skip
      have tc_7 : r_6.toInt = 0 := (fa_eq _ _).mp c_7
      refine lv_aload_n hx hb dX9_as_15 rfl (lv_at hl 0 rfl) ?_
      refine lv_ldc hx hb hown (hts _ (List.mem_of_getElem? (i := 10) rfl)) dX9_as_16 ?_
      have hPc := hP.sub (ws' := [(h0, .inr (7, [.ref a0, v1, v2, v3, v4, .ref t0, v6, v7, v8, v9, v10, v11, v12, v13, v14, v15, v16, v17, v18, v19, v20, v21, v22, v23, v24, v25, v26, v27])), (t0, .inl (tc, 8, .inl tf))]) [0, 1] rfl
      have hKc := hK.sub (tys' := [(tc, .int)]) [0] rfl
      have hDc := hD.sub (ws' := [(h0, .inr (7, [.ref a0, v1, v2, v3, v4, .ref t0, v6, v7, v8, v9, v10, v11, v12, v13, v14, v15, v16, v17, v18, v19, v20, v21, v22, v23, v24, v25, v26, v27])), (t0, .inl (tc, 8, .inl tf))]) [0, 1] (by decide) rfl
      have hFc := va_free (wc := [(h0, .inr (7, [.ref a0, v1, v2, v3, v4, .ref t0, v6, v7, v8, v9, v10, v11, v12, v13, v14, v15, v16, v17, v18, v19, v20, v21, v22, v23, v24, v25, v26, v27])), (t0, .inl (tc, 8, .inl tf))]) hD hS hA [0, 1] rfl
      refine va_calli (va_runV (As := [.int (-1000000001)]) (rest := []) ⟨hx, hb, hml, hown, hts⟩ (mf_beyond l dC dI ad h0 (.ref a0) v1 v2 v3 v4 t0 v6 v7 v8 v9 v10 v11 v12 v13 v14 v15 v16 v17 v18 v19 v20 v21 v22 v23 v24 v25 v26 v27 tc tf s.heap.size ) (cwV 1 hts g_m_as_mf_beyond_84 rfl rfl rfl (by decide +kernel) ⟨(Nat.le_of_ble_eq_true rfl), (Nat.le_of_ble_eq_true rfl)⟩) ⟨preM_blind, va_recv hKc hPc (ci := 7) (q0 := 0) rfl rfl, fun U hU hW => ⟨rfl, preM_at hU hW hPc hKc hDc hev⟩⟩ rfl rfl hl.1 rfl (lv_room (Nat.le_of_ble_eq_true rfl)) dX9_as_18 ⟨(Nat.le_of_ble_eq_true rfl), (Nat.le_of_ble_eq_true rfl)⟩) hS (fun q _ h => hFc q h) hFc (fun r_18 u t H1 locs ht hvm hw hB hz1 hk1 hS => ?_)
      obtain ⟨tg_19, hP1, hK1, hD1⟩ := hB
      rw [ht] at hP1
      have hK1 := va_K.moved hvm.symm hK1
      obtain ⟨hP, hD⟩ := va_join (wr := [(a0, .inl (ac, 38, .inl nf))]) (w1 := [(h0, .inr (7, [.ref a0, v1, v2, v3, v4, .ref t0, v6, v7, v8, v9, v10, v11, v12, v13, v14, v15, v16, v17, v18, v19, v20, v21, v22, v23, v24, v25, v26, v27])), (t0, .inl (tc, 8, .inl tg_19))]) hP hD [0, 1] [2] rfl rfl (by decide) (by decide) hk1 hFc hP1 hD1
      generalize H1 = H at hP hS ⊢
      have hP : va_P (dC, dI) vwCl [(a0, .inl (ac, 38, .inl nf)), (h0, .inr (7, [.ref a0, v1, v2, v3, v4, .ref t0, v6, v7, v8, v9, v10, v11, v12, v13, v14, v15, v16, v17, v18, v19, v20, v21, v22, v23, v24, v25, v26, v27])), (t0, .inl (tc, 8, .inl tg_19))] H := hP
      have hD : va_D A [(a0, .inl (ac, 38, .inl nf)), (h0, .inr (7, [.ref a0, v1, v2, v3, v4, .ref t0, v6, v7, v8, v9, v10, v11, v12, v13, v14, v15, v16, v17, v18, v19, v20, v21, v22, v23, v24, v25, v26, v27])), (t0, .inl (tc, 8, .inl tg_19))] := hD
      subst hw
      have hP9 := hP.sub (ws' := [(h0, .inr (7, [.ref a0, v1, v2, v3, v4, .ref t0, v6, v7, v8, v9, v10, v11, v12, v13, v14, v15, v16, v17, v18, v19, v20, v21, v22, v23, v24, v25, v26, v27])), (t0, .inl (tc, 8, .inl tg_19)), (a0, .inl (ac, 38, .inl nf))]) [1, 2, 0] rfl
      have hD9 := hD.sub (ws' := [(h0, .inr (7, [.ref a0, v1, v2, v3, v4, .ref t0, v6, v7, v8, v9, v10, v11, v12, v13, v14, v15, v16, v17, v18, v19, v20, v21, v22, v23, v24, v25, v26, v27])), (t0, .inl (tc, 8, .inl tg_19)), (a0, .inl (ac, 38, .inl nf))]) [1, 2, 0] (by decide) rfl
      have hK9 := hK.sub (tys' := [(tc, .int), (ac, .int)]) [0, 1] rfl
      exact W.iret (v := ((-1000000001) : Int32)) hx hb hr (fun t ht hW => ⟨⟨((-1000000001) : Int32), (), rfl, trivial, tg_19, by rw [ht]; exact hP9, va_K.moved hW.alike hK9, hD9⟩, hS.F ht⟩) hS.2.2 dX9_as_21

def w_m_thrown : List Cond := .code yX9_thrown cX9_thrown 3 (some .int) :: (([.methodLink RX9 93 yX9_isShape, .instanceMethod yX9_isShape, .selects RX9 yX9_isShape yX9_isShape, .initialized RX9, .code yX9_isShape cX9_isShape 2 (some .boolean), .fieldLink RX9 9 "LampShapesModel" "now" "[I", .methodLink RX9 75 yX9_within, .static yX9_within, .code yX9_within cX9_within 3 (some .boolean), .constant RX9 74 (-1000000001), .methodLink RX9 84 yX9_finding, .instanceMethod yX9_finding, .selects RX9 yX9_finding yX9_finding, .code yX9_finding cX9_finding 2 (some .int), .fieldLink RX9 23 "LampShapesModel" "found" "[I", .methodLink RX9 99 yX9_shapeIs, .instanceMethod yX9_shapeIs, .selects RX9 yX9_shapeIs yX9_shapeIs, .code yX9_shapeIs cX9_shapeIs 3 (some .int), .methodLink RX9 122 yX9_throwsOf, .static yX9_throwsOf, .code yX9_throwsOf cX9_throwsOf 8 (some .int), .methodLink RX9 112 yX9_mirrored, .static yX9_mirrored, .code yX9_mirrored cX9_mirrored 5 (some .int), .methodLink RX9 109 yX9_has, .static yX9_has, .code yX9_has cX9_has 3 (some .boolean), .methodLink RX9 114 yX9_turned, .static yX9_turned, .code yX9_turned cX9_turned 7 (some .int), .methodLink RX9 119 yX9_isBetween, .static yX9_isBetween, .code yX9_isBetween cX9_isBetween 6 (some .boolean), .methodLink RX9 116 yX9_isInner, .static yX9_isInner, .code yX9_isInner cX9_isInner 3 (some .boolean)] : List Cond) ++ wsX90)
set_option maxRecDepth 20000 in
theorem g_m_thrown_m_isShape_93 : GoodIn w_m_thrown (wsV RX9 93 RX9 yX9_isShape w_m_isShape) := goodIn_r _ [1, 2, 3, 4, 5, 6, 7, 8, 4, 9, 38, 39, 40, 41, 42, 43, 44, 45, 46, 47, 48, 49, 50, 51, 52, 53, 54, 55, 56, 57, 58, 59, 60, 61, 62, 63, 64, 65] rfl (by decide +kernel)
set_option maxRecDepth 20000 in
theorem g_m_thrown_mf_beyond_84 : GoodIn w_m_thrown (wsV RX9 84 RX9 yX9_finding w_mf_beyond) := goodIn_r _ [11, 12, 13, 4, 14, 15, 10, 38, 39, 40, 41, 42, 43, 44, 45, 46, 47, 48, 49, 50, 51, 52, 53, 54, 55, 56, 57, 58, 59, 60, 61, 62, 63, 64, 65] rfl (by decide +kernel)
set_option maxRecDepth 20000 in
theorem g_m_thrown_m_within_75 : GoodIn w_m_thrown (va_wsS RX9 75 yX9_within w_m_within) := goodIn_r _ [7, 8, 4, 9] rfl (by decide +kernel)
set_option maxRecDepth 20000 in
theorem g_m_thrown_m_shapeIs_99 : GoodIn w_m_thrown (wsV RX9 99 RX9 yX9_shapeIs w_m_shapeIs) := goodIn_r _ [16, 17, 18, 4, 19, 6, 38, 39, 40, 41, 42, 43, 44, 45, 46, 47, 48, 49, 50, 51, 52, 53, 54, 55, 56, 57, 58, 59, 60, 61, 62, 63, 64, 65] rfl (by decide +kernel)
set_option maxRecDepth 20000 in
theorem g_m_thrown_m_throwsOf_122 : GoodIn w_m_thrown (va_wsS RX9 122 yX9_throwsOf w_m_throwsOf) := goodIn_r _ [20, 21, 4, 22, 23, 24, 4, 25, 26, 27, 28, 7, 8, 9, 29, 30, 31, 32, 33, 34, 35, 36, 37] rfl (by decide +kernel)
set_option maxHeartbeats 4000000 in
set_option maxRecDepth 100000 in
theorem m_thrown (l : Launch) (dC : Nat → ClassId) (dI : Nat → Nat → Nat) (ad : Nat → Nat) (h0 : Nat) (a : Int32) (b : Int32) (a0 : Nat) (v1 : Value) (v2 : Value) (v3 : Value) (v4 : Value) (t0 : Nat) (v6 : Value) (v7 : Value) (v8 : Value) (v9 : Value) (v10 : Value) (v11 : Value) (v12 : Value) (v13 : Value) (v14 : Value) (v15 : Value) (v16 : Value) (v17 : Value) (v18 : Value) (v19 : Value) (v20 : Value) (v21 : Value) (v22 : Value) (v23 : Value) (v24 : Value) (v25 : Value) (v26 : Value) (v27 : Value) (tc : ClassId) (tf : Nat → Int32) (ac : ClassId) (nf : Nat → Int32) (sz : Nat) (hI : mI nf) : Met l yX9_thrown w_m_thrown ({ frames := 4, cells := 0, slots := 0, locals := 97 } : Room) (va_Pc [.ref h0, .int a, .int b] (preM dC dI ad [(tc, .int), (ac, .int)] [(h0, .inr (7, [.ref a0, v1, v2, v3, v4, .ref t0, v6, v7, v8, v9, v10, v11, v12, v13, v14, v15, v16, v17, v18, v19, v20, v21, v22, v23, v24, v25, v26, v27])), (t0, .inl (tc, 8, .inl tf)), (a0, .inl (ac, 38, .inl nf))] sz)) (va_Qi (fun (r : Int32) (_ : Unit) => True) (fun _ t => ∃ (tg : Nat → Int32), va_P (dC, dI) vwCl [(h0, .inr (7, [.ref a0, v1, v2, v3, v4, .ref t0, v6, v7, v8, v9, v10, v11, v12, v13, v14, v15, v16, v17, v18, v19, v20, v21, v22, v23, v24, v25, v26, v27])), (t0, .inl (tc, 8, .inl tg)), (a0, .inl (ac, 38, .inl nf))] t.heap ∧ va_K (dC, dI) vwCl [(tc, .int), (ac, .int)] t ∧ va_D (va_A [(h0, .inr (7, [.ref a0, v1, v2, v3, v4, .ref t0, v6, v7, v8, v9, v10, v11, v12, v13, v14, v15, v16, v17, v18, v19, v20, v21, v22, v23, v24, v25, v26, v27])), (t0, .inl (tc, 8, .inl tf)), (a0, .inl (ac, 38, .inl nf))] sz) [(h0, .inr (7, [.ref a0, v1, v2, v3, v4, .ref t0, v6, v7, v8, v9, v10, v11, v12, v13, v14, v15, v16, v17, v18, v19, v20, v21, v22, v23, v24, v25, v26, v27])), (t0, .inl (tc, 8, .inl tg)), (a0, .inl (ac, 38, .inl nf))]) (va_A [(h0, .inr (7, [.ref a0, v1, v2, v3, v4, .ref t0, v6, v7, v8, v9, v10, v11, v12, v13, v14, v15, v16, v17, v18, v19, v20, v21, v22, v23, v24, v25, v26, v27])), (t0, .inl (tc, 8, .inl tf)), (a0, .inl (ac, 38, .inl nf))] sz)) 0 0 (va_A [(h0, .inr (7, [.ref a0, v1, v2, v3, v4, .ref t0, v6, v7, v8, v9, v10, v11, v12, v13, v14, v15, v16, v17, v18, v19, v20, v21, v22, v23, v24, v25, v26, v27])), (t0, .inl (tc, 8, .inl tf)), (a0, .inl (ac, 38, .inl nf))] sz) := by
  refine Met.ofW (cc := cX9_thrown) (maxL := 3) (ret := (some .int)) (by decide) rfl ?_
  intro p e s m args below meth c s₁ B hml hv
  obtain ⟨rfl, hsz, hP, hK, hD0, hev⟩ := hv
  have hx := B.exec
  have hb := B.bytes
  have hr := B.returns
  have hts := atoms_spec (ws := w_m_thrown) B.pre
  have hown : s.vm.findClass RX9 = some m.cls := findClass_of_methodNamed B.named
  have hlocks := B.notSynchronized
  have inX9 : ∀ w ∈ wsX90, w ∈ w_m_thrown := fun w h => List.mem_cons_of_mem _ (List.mem_append_right _ h)
  subst hsz
  have hD := hD0.self (sz := s.heap.size)
  generalize hAe : va_A [(h0, .inr (7, [.ref a0, v1, v2, v3, v4, .ref t0, v6, v7, v8, v9, v10, v11, v12, v13, v14, v15, v16, v17, v18, v19, v20, v21, v22, v23, v24, v25, v26, v27])), (t0, .inl (tc, 8, .inl tf)), (a0, .inl (ac, 38, .inl nf))] s.heap.size = A at hD ⊢
  have hA : ∀ q : Nat, s.heap.size ≤ q → A q := fun q h => by rw [← hAe]; exact Or.inr h
  have hS : va_S A s.heap s.heap [] := va_S.rf
  have hP : va_P (dC, dI) vwCl [(h0, .inr (7, [.ref a0, v1, v2, v3, v4, .ref t0, v6, v7, v8, v9, v10, v11, v12, v13, v14, v15, v16, v17, v18, v19, v20, v21, v22, v23, v24, v25, v26, v27])), (t0, .inl (tc, 8, .inl tf)), (a0, .inl (ac, 38, .inl nf))] s.heap := hP
  have hl := lv_entry ([.ref h0, .int a, .int b]) (n := 3) (Nat.le_of_ble_eq_true rfl)
  rw [lg_entry_eq]
  generalize (lg_sl ([.ref h0, .int a, .int b]) ++ List.replicate (3 - (lg_sl ([.ref h0, .int a, .int b])).length) Slot.unset).toArray = ls at hl ⊢
  have hl : lv_has ls 3 [(0, .ref h0), (1, .int a), (2, .int b)] := hl
  refine lv_aload_n hx hb dX9_thrown_0 rfl (lv_at hl 0 rfl) ?_
  refine lv_iload_n hx hb dX9_thrown_1 rfl (lv_at hl 1 rfl) ?_
  have hPc := hP.sub (ws' := [(h0, .inr (7, [.ref a0, v1, v2, v3, v4, .ref t0, v6, v7, v8, v9, v10, v11, v12, v13, v14, v15, v16, v17, v18, v19, v20, v21, v22, v23, v24, v25, v26, v27])), (a0, .inl (ac, 38, .inl nf))]) [0, 2] rfl
  have hKc := hK.sub (tys' := [(ac, .int)]) [1] rfl
  refine vp_callSi (W.runV (As := [.int a]) (rest := []) ⟨hx, hb, hml, hown, hts⟩ (m_isShape l dC dI ad h0 a a0 v1 v2 v3 v4 (.ref t0) v6 v7 v8 v9 v10 v11 v12 v13 v14 v15 v16 v17 v18 v19 v20 v21 v22 v23 v24 v25 v26 v27 ac nf hI) (cwV 1 hts g_m_thrown_m_isShape_93 rfl rfl rfl (by decide +kernel) ⟨(Nat.le_of_ble_eq_true rfl), (Nat.le_of_ble_eq_true rfl)⟩) ⟨preS_blind, va_recv hKc hPc (ci := 7) (q0 := 0) rfl rfl, fun U hU hW => ⟨rfl, preS_at hU hW hPc hKc hev⟩⟩ rfl rfl hl.1 rfl (lv_room (Nat.le_of_ble_eq_true rfl)) dX9_thrown_2 ⟨(Nat.le_of_ble_eq_true rfl), (Nat.le_of_ble_eq_true rfl)⟩) (fun r_1 hw => ?_)
  have hr_1 : (r_1.toInt = 1 ∧ 0 ≤ a.toInt ∧ a.toInt < (nf 0).toInt ∧ a.toInt ≤ 8) ∨ r_1.toInt = 0 := hw
  refine lv_if_eq (tgt := 36) hx hb dX9_thrown_5 (by decide) (fun c_2 => ?_) (fun c_2 => ?_)
  · skip
    have tc_2 : r_1.toInt = 0 := (fa_eq _ _).mp c_2
    refine lv_aload_n hx hb dX9_thrown_36 rfl (lv_at hl 0 rfl) ?_
    refine lv_ldc hx hb hown (hts _ (List.mem_of_getElem? (i := 10) rfl)) dX9_thrown_37 ?_
    have hPc := hP.sub (ws' := [(h0, .inr (7, [.ref a0, v1, v2, v3, v4, .ref t0, v6, v7, v8, v9, v10, v11, v12, v13, v14, v15, v16, v17, v18, v19, v20, v21, v22, v23, v24, v25, v26, v27])), (t0, .inl (tc, 8, .inl tf))]) [0, 1] rfl
    have hKc := hK.sub (tys' := [(tc, .int)]) [0] rfl
    have hDc := hD.sub (ws' := [(h0, .inr (7, [.ref a0, v1, v2, v3, v4, .ref t0, v6, v7, v8, v9, v10, v11, v12, v13, v14, v15, v16, v17, v18, v19, v20, v21, v22, v23, v24, v25, v26, v27])), (t0, .inl (tc, 8, .inl tf))]) [0, 1] (by decide) rfl
    have hFc := va_free (wc := [(h0, .inr (7, [.ref a0, v1, v2, v3, v4, .ref t0, v6, v7, v8, v9, v10, v11, v12, v13, v14, v15, v16, v17, v18, v19, v20, v21, v22, v23, v24, v25, v26, v27])), (t0, .inl (tc, 8, .inl tf))]) hD hS hA [0, 1] rfl
    refine va_calli (va_runV (As := [.int (-1000000001)]) (rest := []) ⟨hx, hb, hml, hown, hts⟩ (mf_beyond l dC dI ad h0 (.ref a0) v1 v2 v3 v4 t0 v6 v7 v8 v9 v10 v11 v12 v13 v14 v15 v16 v17 v18 v19 v20 v21 v22 v23 v24 v25 v26 v27 tc tf s.heap.size ) (cwV 1 hts g_m_thrown_mf_beyond_84 rfl rfl rfl (by decide +kernel) ⟨(Nat.le_of_ble_eq_true rfl), (Nat.le_of_ble_eq_true rfl)⟩) ⟨preM_blind, va_recv hKc hPc (ci := 7) (q0 := 0) rfl rfl, fun U hU hW => ⟨rfl, preM_at hU hW hPc hKc hDc hev⟩⟩ rfl rfl hl.1 rfl (lv_room (Nat.le_of_ble_eq_true rfl)) dX9_thrown_39 ⟨(Nat.le_of_ble_eq_true rfl), (Nat.le_of_ble_eq_true rfl)⟩) hS (fun q _ h => hFc q h) hFc (fun r_3 u t H1 locs ht hvm hw hB hz1 hk1 hS => ?_)
    obtain ⟨tg_4, hP1, hK1, hD1⟩ := hB
    rw [ht] at hP1
    have hK1 := va_K.moved hvm.symm hK1
    obtain ⟨hP, hD⟩ := va_join (wr := [(a0, .inl (ac, 38, .inl nf))]) (w1 := [(h0, .inr (7, [.ref a0, v1, v2, v3, v4, .ref t0, v6, v7, v8, v9, v10, v11, v12, v13, v14, v15, v16, v17, v18, v19, v20, v21, v22, v23, v24, v25, v26, v27])), (t0, .inl (tc, 8, .inl tg_4))]) hP hD [0, 1] [2] rfl rfl (by decide) (by decide) hk1 hFc hP1 hD1
    generalize H1 = H at hP hS ⊢
    have hP : va_P (dC, dI) vwCl [(a0, .inl (ac, 38, .inl nf)), (h0, .inr (7, [.ref a0, v1, v2, v3, v4, .ref t0, v6, v7, v8, v9, v10, v11, v12, v13, v14, v15, v16, v17, v18, v19, v20, v21, v22, v23, v24, v25, v26, v27])), (t0, .inl (tc, 8, .inl tg_4))] H := hP
    have hD : va_D A [(a0, .inl (ac, 38, .inl nf)), (h0, .inr (7, [.ref a0, v1, v2, v3, v4, .ref t0, v6, v7, v8, v9, v10, v11, v12, v13, v14, v15, v16, v17, v18, v19, v20, v21, v22, v23, v24, v25, v26, v27])), (t0, .inl (tc, 8, .inl tg_4))] := hD
    subst hw
    have hP9 := hP.sub (ws' := [(h0, .inr (7, [.ref a0, v1, v2, v3, v4, .ref t0, v6, v7, v8, v9, v10, v11, v12, v13, v14, v15, v16, v17, v18, v19, v20, v21, v22, v23, v24, v25, v26, v27])), (t0, .inl (tc, 8, .inl tg_4)), (a0, .inl (ac, 38, .inl nf))]) [1, 2, 0] rfl
    have hD9 := hD.sub (ws' := [(h0, .inr (7, [.ref a0, v1, v2, v3, v4, .ref t0, v6, v7, v8, v9, v10, v11, v12, v13, v14, v15, v16, v17, v18, v19, v20, v21, v22, v23, v24, v25, v26, v27])), (t0, .inl (tc, 8, .inl tg_4)), (a0, .inl (ac, 38, .inl nf))]) [1, 2, 0] (by decide) rfl
    have hK9 := hK.sub (tys' := [(tc, .int), (ac, .int)]) [0, 1] rfl
    exact W.iret (v := ((-1000000001) : Int32)) hx hb hr (fun t ht hW => ⟨⟨((-1000000001) : Int32), (), rfl, trivial, tg_4, by rw [ht]; exact hP9, va_K.moved hW.alike hK9, hD9⟩, hS.F ht⟩) hS.2.2 dX9_thrown_42
  · skip
    have tc_2 : ¬ r_1.toInt = 0 := fun h => c_2 ((fa_eq _ _).mpr h)
    have i_5 : 0 ≤ a.toInt ∧ a.toInt < (nf 0).toInt ∧ a.toInt ≤ 8 := by omega
    refine lv_iload_n hx hb dX9_thrown_8 rfl (lv_at hl 2 rfl) ?_
    refine lv_iconst (v := 0) hx hb dX9_thrown_9 (by decide) ?_
    refine lv_iconst (v := 3) hx hb dX9_thrown_10 (by decide) ?_
    have hPc := hP.sub (ws' := []) [] rfl
    have hKc := hK.sub (tys' := []) [] rfl
    refine vp_callSi (W.runS (As := [.int b, .int 0, .int 3]) (rest := []) ⟨hx, hb, hml, hown, hts⟩ (m_within l dC dI ad b 0 3 ) (va_cwS 3 hts g_m_thrown_m_within_75 rfl rfl rfl (by decide +kernel) ⟨(Nat.le_of_ble_eq_true rfl), (Nat.le_of_ble_eq_true rfl)⟩) ⟨preS_blind, fun U hU hW => ⟨rfl, preS_at hU hW hPc hKc hev⟩⟩ rfl rfl hl.1 rfl (lv_room (Nat.le_of_ble_eq_true rfl)) dX9_thrown_11 ⟨(Nat.le_of_ble_eq_true rfl), (Nat.le_of_ble_eq_true rfl)⟩) (fun r_6 hw => ?_)
    have hr_6 : (r_6.toInt = 1 ∧ 0 ≤ b.toInt ∧ b.toInt ≤ 3) ∨ (r_6.toInt = 0 ∧ ¬ (0 ≤ b.toInt ∧ b.toInt ≤ 3)) := hw
    refine lv_if_eq (tgt := 36) hx hb dX9_thrown_14 (by decide) (fun c_7 => ?_) (fun c_7 => ?_)
    · skip
      have tc_7 : r_6.toInt = 0 := (fa_eq _ _).mp c_7
      refine lv_aload_n hx hb dX9_thrown_36 rfl (lv_at hl 0 rfl) ?_
      refine lv_ldc hx hb hown (hts _ (List.mem_of_getElem? (i := 10) rfl)) dX9_thrown_37 ?_
      have hPc := hP.sub (ws' := [(h0, .inr (7, [.ref a0, v1, v2, v3, v4, .ref t0, v6, v7, v8, v9, v10, v11, v12, v13, v14, v15, v16, v17, v18, v19, v20, v21, v22, v23, v24, v25, v26, v27])), (t0, .inl (tc, 8, .inl tf))]) [0, 1] rfl
      have hKc := hK.sub (tys' := [(tc, .int)]) [0] rfl
      have hDc := hD.sub (ws' := [(h0, .inr (7, [.ref a0, v1, v2, v3, v4, .ref t0, v6, v7, v8, v9, v10, v11, v12, v13, v14, v15, v16, v17, v18, v19, v20, v21, v22, v23, v24, v25, v26, v27])), (t0, .inl (tc, 8, .inl tf))]) [0, 1] (by decide) rfl
      have hFc := va_free (wc := [(h0, .inr (7, [.ref a0, v1, v2, v3, v4, .ref t0, v6, v7, v8, v9, v10, v11, v12, v13, v14, v15, v16, v17, v18, v19, v20, v21, v22, v23, v24, v25, v26, v27])), (t0, .inl (tc, 8, .inl tf))]) hD hS hA [0, 1] rfl
      refine va_calli (va_runV (As := [.int (-1000000001)]) (rest := []) ⟨hx, hb, hml, hown, hts⟩ (mf_beyond l dC dI ad h0 (.ref a0) v1 v2 v3 v4 t0 v6 v7 v8 v9 v10 v11 v12 v13 v14 v15 v16 v17 v18 v19 v20 v21 v22 v23 v24 v25 v26 v27 tc tf s.heap.size ) (cwV 1 hts g_m_thrown_mf_beyond_84 rfl rfl rfl (by decide +kernel) ⟨(Nat.le_of_ble_eq_true rfl), (Nat.le_of_ble_eq_true rfl)⟩) ⟨preM_blind, va_recv hKc hPc (ci := 7) (q0 := 0) rfl rfl, fun U hU hW => ⟨rfl, preM_at hU hW hPc hKc hDc hev⟩⟩ rfl rfl hl.1 rfl (lv_room (Nat.le_of_ble_eq_true rfl)) dX9_thrown_39 ⟨(Nat.le_of_ble_eq_true rfl), (Nat.le_of_ble_eq_true rfl)⟩) hS (fun q _ h => hFc q h) hFc (fun r_8 u t H1 locs ht hvm hw hB hz1 hk1 hS => ?_)
      obtain ⟨tg_9, hP1, hK1, hD1⟩ := hB
      rw [ht] at hP1
      have hK1 := va_K.moved hvm.symm hK1
      obtain ⟨hP, hD⟩ := va_join (wr := [(a0, .inl (ac, 38, .inl nf))]) (w1 := [(h0, .inr (7, [.ref a0, v1, v2, v3, v4, .ref t0, v6, v7, v8, v9, v10, v11, v12, v13, v14, v15, v16, v17, v18, v19, v20, v21, v22, v23, v24, v25, v26, v27])), (t0, .inl (tc, 8, .inl tg_9))]) hP hD [0, 1] [2] rfl rfl (by decide) (by decide) hk1 hFc hP1 hD1
      generalize H1 = H at hP hS ⊢
      have hP : va_P (dC, dI) vwCl [(a0, .inl (ac, 38, .inl nf)), (h0, .inr (7, [.ref a0, v1, v2, v3, v4, .ref t0, v6, v7, v8, v9, v10, v11, v12, v13, v14, v15, v16, v17, v18, v19, v20, v21, v22, v23, v24, v25, v26, v27])), (t0, .inl (tc, 8, .inl tg_9))] H := hP
      have hD : va_D A [(a0, .inl (ac, 38, .inl nf)), (h0, .inr (7, [.ref a0, v1, v2, v3, v4, .ref t0, v6, v7, v8, v9, v10, v11, v12, v13, v14, v15, v16, v17, v18, v19, v20, v21, v22, v23, v24, v25, v26, v27])), (t0, .inl (tc, 8, .inl tg_9))] := hD
      subst hw
      have hP9 := hP.sub (ws' := [(h0, .inr (7, [.ref a0, v1, v2, v3, v4, .ref t0, v6, v7, v8, v9, v10, v11, v12, v13, v14, v15, v16, v17, v18, v19, v20, v21, v22, v23, v24, v25, v26, v27])), (t0, .inl (tc, 8, .inl tg_9)), (a0, .inl (ac, 38, .inl nf))]) [1, 2, 0] rfl
      have hD9 := hD.sub (ws' := [(h0, .inr (7, [.ref a0, v1, v2, v3, v4, .ref t0, v6, v7, v8, v9, v10, v11, v12, v13, v14, v15, v16, v17, v18, v19, v20, v21, v22, v23, v24, v25, v26, v27])), (t0, .inl (tc, 8, .inl tg_9)), (a0, .inl (ac, 38, .inl nf))]) [1, 2, 0] (by decide) rfl
      have hK9 := hK.sub (tys' := [(tc, .int), (ac, .int)]) [0, 1] rfl
      exact W.iret (v := ((-1000000001) : Int32)) hx hb hr (fun t ht hW => ⟨⟨((-1000000001) : Int32), (), rfl, trivial, tg_9, by rw [ht]; exact hP9, va_K.moved hW.alike hK9, hD9⟩, hS.F ht⟩) hS.2.2 dX9_thrown_42
    · skip
      have tc_7 : ¬ r_6.toInt = 0 := fun h => c_7 ((fa_eq _ _).mpr h)
      have i_10 : 0 ≤ b.toInt ∧ b.toInt ≤ 3 := by omega
      refine lv_aload_n hx hb dX9_thrown_17 rfl (lv_at hl 0 rfl) ?_
      refine lv_iload_n hx hb dX9_thrown_18 rfl (lv_at hl 1 rfl) ?_
      refine lv_iconst (v := 0) hx hb dX9_thrown_19 (by decide) ?_
      have hPc := hP.sub (ws' := [(h0, .inr (7, [.ref a0, v1, v2, v3, v4, .ref t0, v6, v7, v8, v9, v10, v11, v12, v13, v14, v15, v16, v17, v18, v19, v20, v21, v22, v23, v24, v25, v26, v27])), (a0, .inl (ac, 38, .inl nf))]) [0, 2] rfl
      have hKc := hK.sub (tys' := [(ac, .int)]) [1] rfl
      refine vp_callSi (W.runV (As := [.int a, .int 0]) (rest := []) ⟨hx, hb, hml, hown, hts⟩ (m_shapeIs l dC dI ad h0 a 0 a0 v1 v2 v3 v4 (.ref t0) v6 v7 v8 v9 v10 v11 v12 v13 v14 v15 v16 v17 v18 v19 v20 v21 v22 v23 v24 v25 v26 v27 ac nf (by first | omega | decide | (simp only [fa_lt, fa_le, fa_eq, and_true, true_and, and_false, false_and, not_true_eq_false, not_false_eq_true, li_0, li_1, li_2, li_3, li_4, li_5, li_6, li_7, li_8, li_9, li_10, li_12, li_15, li_16, li_20, li_30, li_34, li_38, li_40, li_63, li_64, li_65, li_78, li_120, li_1000, li_4000, li_10000, li_11077, li_255, li_65535, li_m1, li_m2, li_m1000000001, li_m1000000002, li_m1000000003, li_m1000000004, li_m1000000005, li_m1000000006, li_m1000000007, or_true, true_or, or_false, false_or, implies_true, true_implies, false_implies] <;> omega)) (by first | omega | decide | (simp only [fa_lt, fa_le, fa_eq, and_true, true_and, and_false, false_and, not_true_eq_false, not_false_eq_true, li_0, li_1, li_2, li_3, li_4, li_5, li_6, li_7, li_8, li_9, li_10, li_12, li_15, li_16, li_20, li_30, li_34, li_38, li_40, li_63, li_64, li_65, li_78, li_120, li_1000, li_4000, li_10000, li_11077, li_255, li_65535, li_m1, li_m2, li_m1000000001, li_m1000000002, li_m1000000003, li_m1000000004, li_m1000000005, li_m1000000006, li_m1000000007, or_true, true_or, or_false, false_or, implies_true, true_implies, false_implies] <;> omega))) (cwV 2 hts g_m_thrown_m_shapeIs_99 rfl rfl rfl (by decide +kernel) ⟨(Nat.le_of_ble_eq_true rfl), (Nat.le_of_ble_eq_true rfl)⟩) ⟨preS_blind, va_recv hKc hPc (ci := 7) (q0 := 0) rfl rfl, fun U hU hW => ⟨rfl, preS_at hU hW hPc hKc hev⟩⟩ rfl rfl hl.1 rfl (lv_room (Nat.le_of_ble_eq_true rfl)) dX9_thrown_20 ⟨(Nat.le_of_ble_eq_true rfl), (Nat.le_of_ble_eq_true rfl)⟩) (fun r_11 hw => ?_)
      refine lv_aload_n hx hb dX9_thrown_23 rfl (lv_at hl 0 rfl) ?_
      refine lv_iload_n hx hb dX9_thrown_24 rfl (lv_at hl 1 rfl) ?_
      refine lv_iconst (v := 1) hx hb dX9_thrown_25 (by decide) ?_
      have hPc := hP.sub (ws' := [(h0, .inr (7, [.ref a0, v1, v2, v3, v4, .ref t0, v6, v7, v8, v9, v10, v11, v12, v13, v14, v15, v16, v17, v18, v19, v20, v21, v22, v23, v24, v25, v26, v27])), (a0, .inl (ac, 38, .inl nf))]) [0, 2] rfl
      have hKc := hK.sub (tys' := [(ac, .int)]) [1] rfl
      refine vp_callSi (W.runV (As := [.int a, .int 1]) (rest := [.int r_11]) ⟨hx, hb, hml, hown, hts⟩ (m_shapeIs l dC dI ad h0 a 1 a0 v1 v2 v3 v4 (.ref t0) v6 v7 v8 v9 v10 v11 v12 v13 v14 v15 v16 v17 v18 v19 v20 v21 v22 v23 v24 v25 v26 v27 ac nf (by first | omega | decide | (simp only [fa_lt, fa_le, fa_eq, and_true, true_and, and_false, false_and, not_true_eq_false, not_false_eq_true, li_0, li_1, li_2, li_3, li_4, li_5, li_6, li_7, li_8, li_9, li_10, li_12, li_15, li_16, li_20, li_30, li_34, li_38, li_40, li_63, li_64, li_65, li_78, li_120, li_1000, li_4000, li_10000, li_11077, li_255, li_65535, li_m1, li_m2, li_m1000000001, li_m1000000002, li_m1000000003, li_m1000000004, li_m1000000005, li_m1000000006, li_m1000000007, or_true, true_or, or_false, false_or, implies_true, true_implies, false_implies] <;> omega)) (by first | omega | decide | (simp only [fa_lt, fa_le, fa_eq, and_true, true_and, and_false, false_and, not_true_eq_false, not_false_eq_true, li_0, li_1, li_2, li_3, li_4, li_5, li_6, li_7, li_8, li_9, li_10, li_12, li_15, li_16, li_20, li_30, li_34, li_38, li_40, li_63, li_64, li_65, li_78, li_120, li_1000, li_4000, li_10000, li_11077, li_255, li_65535, li_m1, li_m2, li_m1000000001, li_m1000000002, li_m1000000003, li_m1000000004, li_m1000000005, li_m1000000006, li_m1000000007, or_true, true_or, or_false, false_or, implies_true, true_implies, false_implies] <;> omega))) (cwV 2 hts g_m_thrown_m_shapeIs_99 rfl rfl rfl (by decide +kernel) ⟨(Nat.le_of_ble_eq_true rfl), (Nat.le_of_ble_eq_true rfl)⟩) ⟨preS_blind, va_recv hKc hPc (ci := 7) (q0 := 0) rfl rfl, fun U hU hW => ⟨rfl, preS_at hU hW hPc hKc hev⟩⟩ rfl rfl hl.1 rfl (lv_room (Nat.le_of_ble_eq_true rfl)) dX9_thrown_26 ⟨(Nat.le_of_ble_eq_true rfl), (Nat.le_of_ble_eq_true rfl)⟩) (fun r_12 hw => ?_)
      refine lv_iload_n hx hb dX9_thrown_29 rfl (lv_at hl 2 rfl) ?_
      have hPc := hP.sub (ws' := []) [] rfl
      have hKc := hK.sub (tys' := []) [] rfl
      refine vp_callSi (W.runS (As := [.int r_11, .int r_12, .int b]) (rest := []) ⟨hx, hb, hml, hown, hts⟩ (m_throwsOf l dC dI ad r_11 r_12 b ) (va_cwS 3 hts g_m_thrown_m_throwsOf_122 rfl rfl rfl (by decide +kernel) ⟨(Nat.le_of_ble_eq_true rfl), (Nat.le_of_ble_eq_true rfl)⟩) ⟨preS_blind, fun U hU hW => ⟨rfl, preS_at hU hW hPc hKc hev⟩⟩ rfl rfl hl.1 rfl (lv_room (Nat.le_of_ble_eq_true rfl)) dX9_thrown_30 ⟨(Nat.le_of_ble_eq_true rfl), (Nat.le_of_ble_eq_true rfl)⟩) (fun r_13 hw => ?_)
      refine lv_goto (tgt := 42) hx hb dX9_thrown_33 (by decide) ?_
      have hP9 := hP.sub (ws' := [(h0, .inr (7, [.ref a0, v1, v2, v3, v4, .ref t0, v6, v7, v8, v9, v10, v11, v12, v13, v14, v15, v16, v17, v18, v19, v20, v21, v22, v23, v24, v25, v26, v27])), (t0, .inl (tc, 8, .inl tf)), (a0, .inl (ac, 38, .inl nf))]) [0, 1, 2] rfl
      have hD9 := hD.sub (ws' := [(h0, .inr (7, [.ref a0, v1, v2, v3, v4, .ref t0, v6, v7, v8, v9, v10, v11, v12, v13, v14, v15, v16, v17, v18, v19, v20, v21, v22, v23, v24, v25, v26, v27])), (t0, .inl (tc, 8, .inl tf)), (a0, .inl (ac, 38, .inl nf))]) [0, 1, 2] (by decide) rfl
      have hK9 := hK.sub (tys' := [(tc, .int), (ac, .int)]) [0, 1] rfl
      exact W.iret (v := r_13) hx hb hr (fun t ht hW => ⟨⟨r_13, (), rfl, trivial, tf, by rw [ht]; exact hP9, va_K.moved hW.alike hK9, hD9⟩, hS.F ht⟩) hS.2.2 dX9_thrown_42

def w_m_shadowOf : List Cond := .code yX9_shadowOf cX9_shadowOf 11 (some .long) :: (([.methodLink RX9 99 yX9_shapeIs, .instanceMethod yX9_shapeIs, .selects RX9 yX9_shapeIs yX9_shapeIs, .initialized RX9, .code yX9_shapeIs cX9_shapeIs 3 (some .int), .fieldLink RX9 9 "LampShapesModel" "now" "[I", .methodLink RX9 122 yX9_throwsOf, .static yX9_throwsOf, .code yX9_throwsOf cX9_throwsOf 8 (some .int), .methodLink RX9 112 yX9_mirrored, .static yX9_mirrored, .code yX9_mirrored cX9_mirrored 5 (some .int), .methodLink RX9 109 yX9_has, .static yX9_has, .code yX9_has cX9_has 3 (some .boolean), .methodLink RX9 75 yX9_within, .static yX9_within, .code yX9_within cX9_within 3 (some .boolean), .methodLink RX9 114 yX9_turned, .static yX9_turned, .code yX9_turned cX9_turned 7 (some .int), .methodLink RX9 119 yX9_isBetween, .static yX9_isBetween, .code yX9_isBetween cX9_isBetween 6 (some .boolean), .methodLink RX9 116 yX9_isInner, .static yX9_isInner, .code yX9_isInner cX9_isInner 3 (some .boolean)] : List Cond) ++ wsX90)
set_option maxRecDepth 20000 in
theorem g_m_shadowOf_m_shapeIs_99 : GoodIn w_m_shadowOf (wsV RX9 99 RX9 yX9_shapeIs w_m_shapeIs) := goodIn_r _ [1, 2, 3, 4, 5, 6, 28, 29, 30, 31, 32, 33, 34, 35, 36, 37, 38, 39, 40, 41, 42, 43, 44, 45, 46, 47, 48, 49, 50, 51, 52, 53, 54, 55] rfl (by decide +kernel)
set_option maxRecDepth 20000 in
theorem g_m_shadowOf_m_throwsOf_122 : GoodIn w_m_shadowOf (va_wsS RX9 122 yX9_throwsOf w_m_throwsOf) := goodIn_r _ [7, 8, 4, 9, 10, 11, 4, 12, 13, 14, 15, 16, 17, 18, 19, 20, 21, 22, 23, 24, 25, 26, 27] rfl (by decide +kernel)
set_option maxRecDepth 20000 in
theorem g_m_shadowOf_m_has_109 : GoodIn w_m_shadowOf (va_wsS RX9 109 yX9_has w_m_has) := goodIn_r _ [13, 14, 4, 15, 16, 17, 4, 18] rfl (by decide +kernel)
set_option maxHeartbeats 4000000 in
set_option maxRecDepth 100000 in
theorem m_shadowOf (l : Launch) (dC : Nat → ClassId) (dI : Nat → Nat → Nat) (ad : Nat → Nat) (h0 : Nat) (k : Int32) (b : Int32) (a0 : Nat) (v1 : Value) (v2 : Value) (v3 : Value) (v4 : Value) (v5 : Value) (v6 : Value) (v7 : Value) (v8 : Value) (v9 : Value) (v10 : Value) (v11 : Value) (v12 : Value) (v13 : Value) (v14 : Value) (v15 : Value) (v16 : Value) (v17 : Value) (v18 : Value) (v19 : Value) (v20 : Value) (v21 : Value) (v22 : Value) (v23 : Value) (v24 : Value) (v25 : Value) (v26 : Value) (v27 : Value) (ac : ClassId) (nf : Nat → Int32) (hk : 0 ≤ k.toInt ∧ k.toInt ≤ 8) : Met l yX9_shadowOf w_m_shadowOf ({ frames := 4, cells := 0, slots := 0, locals := 97 } : Room) (va_Pc [.ref h0, .int k, .int b] (preS dC dI ad [(ac, .int)] [(h0, .inr (7, [.ref a0, v1, v2, v3, v4, v5, v6, v7, v8, v9, v10, v11, v12, v13, v14, v15, v16, v17, v18, v19, v20, v21, v22, v23, v24, v25, v26, v27])), (a0, .inl (ac, 38, .inl nf))])) (vp_Sl (fun r => True)) 0 0 (fun _ => False) := by
  refine Met.ofW (cc := cX9_shadowOf) (maxL := 11) (ret := (some .long)) (by decide) rfl ?_
  intro p e s m args below meth c s₁ B hml hv
  obtain ⟨rfl, hP, hK, hev⟩ := hv
  have hx := B.exec
  have hb := B.bytes
  have hr := B.returns
  have hts := atoms_spec (ws := w_m_shadowOf) B.pre
  have hown : s.vm.findClass RX9 = some m.cls := findClass_of_methodNamed B.named
  have hlocks := B.notSynchronized
  have inX9 : ∀ w ∈ wsX90, w ∈ w_m_shadowOf := fun w h => List.mem_cons_of_mem _ (List.mem_append_right _ h)
  have hP : va_P (dC, dI) vwCl [(h0, .inr (7, [.ref a0, v1, v2, v3, v4, v5, v6, v7, v8, v9, v10, v11, v12, v13, v14, v15, v16, v17, v18, v19, v20, v21, v22, v23, v24, v25, v26, v27])), (a0, .inl (ac, 38, .inl nf))] s.heap := hP
  have hl := lv_entry ([.ref h0, .int k, .int b]) (n := 11) (Nat.le_of_ble_eq_true rfl)
  rw [lg_entry_eq]
  generalize (lg_sl ([.ref h0, .int k, .int b]) ++ List.replicate (11 - (lg_sl ([.ref h0, .int k, .int b])).length) Slot.unset).toArray = ls at hl ⊢
  have hl : lv_has ls 11 [(0, .ref h0), (1, .int k), (2, .int b)] := hl
  refine lv_iload_n hx hb dX9_shadowOf_0 rfl (lv_at hl 2 rfl) ?_
  refine lv_sipush (v := 4000) hx hb dX9_shadowOf_1 (by decide) ?_
  refine lv_idiv hx hb dX9_shadowOf_4 (by decide) ?_
  refine lv_topi (fun n_1 en_1 => ?_)
  have tn_1 : -536871 ≤ n_1.toInt ∧ n_1.toInt ≤ 536871 := pp_div4000 en_1
  clear en_1
  refine lv_istore_n (lv' := [(3, .int n_1), (0, .ref h0), (1, .int k), (2, .int b)]) hx hb dX9_shadowOf_5 rfl hl (by decide) rfl (fun ls hl => ?_)
  refine lv_aload_n hx hb dX9_shadowOf_6 rfl (lv_at hl 1 rfl) ?_
  refine lv_iload_n hx hb dX9_shadowOf_7 rfl (lv_at hl 2 rfl) ?_
  refine lv_iconst (v := 0) hx hb dX9_shadowOf_8 (by decide) ?_
  have hPc := hP.sub (ws' := [(h0, .inr (7, [.ref a0, v1, v2, v3, v4, v5, v6, v7, v8, v9, v10, v11, v12, v13, v14, v15, v16, v17, v18, v19, v20, v21, v22, v23, v24, v25, v26, v27])), (a0, .inl (ac, 38, .inl nf))]) [0, 1] rfl
  have hKc := hK.sub (tys' := [(ac, .int)]) [0] rfl
  refine vp_callSi (W.runV (As := [.int k, .int 0]) (rest := []) ⟨hx, hb, hml, hown, hts⟩ (m_shapeIs l dC dI ad h0 k 0 a0 v1 v2 v3 v4 v5 v6 v7 v8 v9 v10 v11 v12 v13 v14 v15 v16 v17 v18 v19 v20 v21 v22 v23 v24 v25 v26 v27 ac nf hk (by first | omega | decide | (simp only [fa_lt, fa_le, fa_eq, and_true, true_and, and_false, false_and, not_true_eq_false, not_false_eq_true, li_0, li_1, li_2, li_3, li_4, li_5, li_6, li_7, li_8, li_9, li_10, li_12, li_15, li_16, li_20, li_30, li_34, li_38, li_40, li_63, li_64, li_65, li_78, li_120, li_1000, li_4000, li_10000, li_11077, li_255, li_65535, li_m1, li_m2, li_m1000000001, li_m1000000002, li_m1000000003, li_m1000000004, li_m1000000005, li_m1000000006, li_m1000000007, or_true, true_or, or_false, false_or, implies_true, true_implies, false_implies] <;> omega))) (cwV 2 hts g_m_shadowOf_m_shapeIs_99 rfl rfl rfl (by decide +kernel) ⟨(Nat.le_of_ble_eq_true rfl), (Nat.le_of_ble_eq_true rfl)⟩) ⟨preS_blind, va_recv hKc hPc (ci := 7) (q0 := 0) rfl rfl, fun U hU hW => ⟨rfl, preS_at hU hW hPc hKc hev⟩⟩ rfl rfl hl.1 rfl (lv_room (Nat.le_of_ble_eq_true rfl)) dX9_shadowOf_9 ⟨(Nat.le_of_ble_eq_true rfl), (Nat.le_of_ble_eq_true rfl)⟩) (fun r_2 hw => ?_)
  refine lv_aload_n hx hb dX9_shadowOf_12 rfl (lv_at hl 1 rfl) ?_
  refine lv_iload_n hx hb dX9_shadowOf_13 rfl (lv_at hl 2 rfl) ?_
  refine lv_iconst (v := 1) hx hb dX9_shadowOf_14 (by decide) ?_
  have hPc := hP.sub (ws' := [(h0, .inr (7, [.ref a0, v1, v2, v3, v4, v5, v6, v7, v8, v9, v10, v11, v12, v13, v14, v15, v16, v17, v18, v19, v20, v21, v22, v23, v24, v25, v26, v27])), (a0, .inl (ac, 38, .inl nf))]) [0, 1] rfl
  have hKc := hK.sub (tys' := [(ac, .int)]) [0] rfl
  refine vp_callSi (W.runV (As := [.int k, .int 1]) (rest := [.int r_2]) ⟨hx, hb, hml, hown, hts⟩ (m_shapeIs l dC dI ad h0 k 1 a0 v1 v2 v3 v4 v5 v6 v7 v8 v9 v10 v11 v12 v13 v14 v15 v16 v17 v18 v19 v20 v21 v22 v23 v24 v25 v26 v27 ac nf hk (by first | omega | decide | (simp only [fa_lt, fa_le, fa_eq, and_true, true_and, and_false, false_and, not_true_eq_false, not_false_eq_true, li_0, li_1, li_2, li_3, li_4, li_5, li_6, li_7, li_8, li_9, li_10, li_12, li_15, li_16, li_20, li_30, li_34, li_38, li_40, li_63, li_64, li_65, li_78, li_120, li_1000, li_4000, li_10000, li_11077, li_255, li_65535, li_m1, li_m2, li_m1000000001, li_m1000000002, li_m1000000003, li_m1000000004, li_m1000000005, li_m1000000006, li_m1000000007, or_true, true_or, or_false, false_or, implies_true, true_implies, false_implies] <;> omega))) (cwV 2 hts g_m_shadowOf_m_shapeIs_99 rfl rfl rfl (by decide +kernel) ⟨(Nat.le_of_ble_eq_true rfl), (Nat.le_of_ble_eq_true rfl)⟩) ⟨preS_blind, va_recv hKc hPc (ci := 7) (q0 := 0) rfl rfl, fun U hU hW => ⟨rfl, preS_at hU hW hPc hKc hev⟩⟩ rfl rfl hl.1 rfl (lv_room (Nat.le_of_ble_eq_true rfl)) dX9_shadowOf_15 ⟨(Nat.le_of_ble_eq_true rfl), (Nat.le_of_ble_eq_true rfl)⟩) (fun r_3 hw => ?_)
  refine lv_iload_n hx hb dX9_shadowOf_18 rfl (lv_at hl 3 rfl) ?_
  refine lv_sipush (v := 1000) hx hb dX9_shadowOf_19 (by decide) ?_
  refine lv_idiv hx hb dX9_shadowOf_22 (by decide) ?_
  refine lv_topi (fun n_4 en_4 => ?_)
  clear en_4
  refine lv_iconst (v := 4) hx hb dX9_shadowOf_23 (by decide) ?_
  refine lv_irem hx hb dX9_shadowOf_24 (by decide) ?_
  refine lv_topi (fun n_5 en_5 => ?_)
  clear en_5
  have hPc := hP.sub (ws' := []) [] rfl
  have hKc := hK.sub (tys' := []) [] rfl
  refine vp_callSi (W.runS (As := [.int r_2, .int r_3, .int n_5]) (rest := []) ⟨hx, hb, hml, hown, hts⟩ (m_throwsOf l dC dI ad r_2 r_3 n_5 ) (va_cwS 3 hts g_m_shadowOf_m_throwsOf_122 rfl rfl rfl (by decide +kernel) ⟨(Nat.le_of_ble_eq_true rfl), (Nat.le_of_ble_eq_true rfl)⟩) ⟨preS_blind, fun U hU hW => ⟨rfl, preS_at hU hW hPc hKc hev⟩⟩ rfl rfl hl.1 rfl (lv_room (Nat.le_of_ble_eq_true rfl)) dX9_shadowOf_25 ⟨(Nat.le_of_ble_eq_true rfl), (Nat.le_of_ble_eq_true rfl)⟩) (fun r_6 hw => ?_)
  refine lv_istore (lv' := [(4, .int r_6), (3, .int n_1), (0, .ref h0), (1, .int k), (2, .int b)]) hx hb dX9_shadowOf_28 hl (by decide) rfl (fun ls hl => ?_)
  refine lv_iload_n hx hb dX9_shadowOf_30 rfl (lv_at hl 4 rfl) ?_
  refine lv_sipush (v := 1000) hx hb dX9_shadowOf_31 (by decide) ?_
  refine lv_irem hx hb dX9_shadowOf_34 (by decide) ?_
  refine lv_topi (fun n_7 en_7 => ?_)
  clear en_7
  refine lv_bipush (v := 10) hx hb dX9_shadowOf_35 (by decide) ?_
  refine lv_idiv hx hb dX9_shadowOf_37 (by decide) ?_
  refine lv_topi (fun n_8 en_8 => ?_)
  clear en_8
  refine lv_istore (lv' := [(5, .int n_8), (4, .int r_6), (3, .int n_1), (0, .ref h0), (1, .int k), (2, .int b)]) hx hb dX9_shadowOf_38 hl (by decide) rfl (fun ls hl => ?_)
  refine lv_iload_n hx hb dX9_shadowOf_40 rfl (lv_at hl 5 rfl) ?_
  refine lv_bipush (v := 10) hx hb dX9_shadowOf_41 (by decide) ?_
  refine lv_irem hx hb dX9_shadowOf_43 (by decide) ?_
  refine lv_topi (fun n_9 en_9 => ?_)
  clear en_9
  refine lv_istore (lv' := [(6, .int n_9), (5, .int n_8), (4, .int r_6), (3, .int n_1), (0, .ref h0), (1, .int k), (2, .int b)]) hx hb dX9_shadowOf_44 hl (by decide) rfl (fun ls hl => ?_)
  refine lv_lconst (v := 0) hx hb dX9_shadowOf_46 (by decide) ?_
  refine lv_lstore (lv' := [(7, .long 0), (6, .int n_9), (5, .int n_8), (4, .int r_6), (3, .int n_1), (0, .ref h0), (1, .int k), (2, .int b)]) hx hb dX9_shadowOf_47 hl (by decide) rfl (fun ls hl => ?_)
  refine lv_iconst (v := 0) hx hb dX9_shadowOf_49 (by decide) ?_
  refine lv_istore (lv' := [(9, .int 0), (7, .long 0), (6, .int n_9), (5, .int n_8), (4, .int r_6), (3, .int n_1), (0, .ref h0), (1, .int k), (2, .int b)]) hx hb dX9_shadowOf_50 hl (by decide) rfl (fun ls hl => ?_)
  refine pp_loop (ι := Int32 × Int64) (fun ⟨v9_52, v7_52⟩ => (4 * n_1.toInt - v9_52.toInt).toNat) (fun ⟨v9_52, v7_52⟩ H locs ls => (0 ≤ v9_52.toInt) ∧ H = s.heap ∧ locs = [] ∧ lv_has ls 11 [(9, .int v9_52), (7, .long v7_52), (6, .int n_9), (5, .int n_8), (4, .int r_6), (3, .int n_1), (0, .ref h0), (1, .int k), (2, .int b)]) ?_ (0, 0) _ _ _ ⟨(by first | omega | decide | (simp only [fa_lt, fa_le, fa_eq, and_true, true_and, and_false, false_and, not_true_eq_false, not_false_eq_true, li_0, li_1, li_2, li_3, li_4, li_5, li_6, li_7, li_8, li_9, li_10, li_12, li_15, li_16, li_20, li_30, li_34, li_38, li_40, li_63, li_64, li_65, li_78, li_120, li_1000, li_4000, li_10000, li_11077, li_255, li_65535, li_m1, li_m2, li_m1000000001, li_m1000000002, li_m1000000003, li_m1000000004, li_m1000000005, li_m1000000006, li_m1000000007, or_true, true_or, or_false, false_or, implies_true, true_implies, false_implies] <;> omega)), rfl, rfl, lv_sub hl [0, 1, 2, 3, 4, 5, 6, 7, 8] rfl⟩
  intro k_10 ihk_10 u H locs ls hm hI
  obtain ⟨v9_52, v7_52⟩ := u
  obtain ⟨jk_10_0, rfl, rfl, hl⟩ := hI
  have hmk_10 : (4 * n_1.toInt - v9_52.toInt).toNat < k_10 + 1 := hm
  clear hm
  have jk_10_0 : 0 ≤ v9_52.toInt := jk_10_0
  have hl : lv_has ls 11 [(9, .int v9_52), (7, .long v7_52), (6, .int n_9), (5, .int n_8), (4, .int r_6), (3, .int n_1), (0, .ref h0), (1, .int k), (2, .int b)] := hl
  refine lv_iload hx hb dX9_shadowOf_52 (lv_at hl 0 rfl) ?_
  refine lv_iconst (v := 4) hx hb dX9_shadowOf_54 (by decide) ?_
  refine lv_iload_n hx hb dX9_shadowOf_55 rfl (lv_at hl 5 rfl) ?_
  refine lv_imul hx hb dX9_shadowOf_56 ?_
  refine lv_topi (fun n_11 en_11 => ?_)
  have tn_11 : n_11.toInt = 4 * n_1.toInt := pp_mul en_11 rfl rfl (by omega) (by omega)
  clear en_11
  have rc_12_x := pp_rng v9_52
  have rc_12_y := pp_rng n_11
  refine lv_icmp_ge (tgt := 144) hx hb dX9_shadowOf_57 (by decide) (fun c_12 => ?_) (fun c_12 => ?_)
  · skip
    have tc_12 : n_11.toInt ≤ v9_52.toInt := (fa_le _ _).mp c_12
    refine lv_lload hx hb dX9_shadowOf_144 (lv_at hl 1 rfl) ?_
    exact W.lret (v := v7_52) hx hb hr (fun t ht hW => ⟨v7_52, rfl, trivial, ht⟩) (fun _ h => absurd h List.not_mem_nil) dX9_shadowOf_146
  · skip
    have tc_12 : ¬ n_11.toInt ≤ v9_52.toInt := fun h => c_12 ((fa_le _ _).mpr h)
    refine lv_iload hx hb dX9_shadowOf_60 (lv_at hl 3 rfl) ?_
    refine lv_iload hx hb dX9_shadowOf_62 (lv_at hl 0 rfl) ?_
    refine lv_iadd hx hb dX9_shadowOf_64 ?_
    refine lv_topi (fun n_13 en_13 => ?_)
    clear en_13
    refine lv_bipush (v := 8) hx hb dX9_shadowOf_65 (by decide) ?_
    refine lv_icmp_ge (tgt := 144) hx hb dX9_shadowOf_67 (by decide) (fun c_14 => ?_) (fun c_14 => ?_)
    · skip
      have tc_14 : 8 ≤ n_13.toInt := (fa_le _ _).mp c_14
      refine lv_lload hx hb dX9_shadowOf_144 (lv_at hl 1 rfl) ?_
      exact W.lret (v := v7_52) hx hb hr (fun t ht hW => ⟨v7_52, rfl, trivial, ht⟩) (fun _ h => absurd h List.not_mem_nil) dX9_shadowOf_146
    · skip
      have tc_14 : ¬ 8 ≤ n_13.toInt := fun h => c_14 ((fa_le _ _).mpr h)
      refine lv_iconst (v := 0) hx hb dX9_shadowOf_70 (by decide) ?_
      refine lv_istore (lv' := [(10, .int 0), (9, .int v9_52), (7, .long v7_52), (6, .int n_9), (5, .int n_8), (4, .int r_6), (3, .int n_1), (0, .ref h0), (1, .int k), (2, .int b)]) hx hb dX9_shadowOf_71 hl (by decide) rfl (fun ls hl => ?_)
      refine pp_loop (ι := Int32 × Int64) (fun ⟨v10_73, v7_73⟩ => (4 * n_1.toInt - v10_73.toInt).toNat) (fun ⟨v10_73, v7_73⟩ H locs ls => (0 ≤ v10_73.toInt) ∧ H = s.heap ∧ locs = [] ∧ lv_has ls 11 [(10, .int v10_73), (9, .int v9_52), (7, .long v7_73), (6, .int n_9), (5, .int n_8), (4, .int r_6), (3, .int n_1), (0, .ref h0), (1, .int k), (2, .int b)]) ?_ (0, v7_52) _ _ _ ⟨(by first | omega | decide | (simp only [fa_lt, fa_le, fa_eq, and_true, true_and, and_false, false_and, not_true_eq_false, not_false_eq_true, li_0, li_1, li_2, li_3, li_4, li_5, li_6, li_7, li_8, li_9, li_10, li_12, li_15, li_16, li_20, li_30, li_34, li_38, li_40, li_63, li_64, li_65, li_78, li_120, li_1000, li_4000, li_10000, li_11077, li_255, li_65535, li_m1, li_m2, li_m1000000001, li_m1000000002, li_m1000000003, li_m1000000004, li_m1000000005, li_m1000000006, li_m1000000007, or_true, true_or, or_false, false_or, implies_true, true_implies, false_implies] <;> omega)), rfl, rfl, lv_sub hl [0, 1, 2, 3, 4, 5, 6, 7, 8, 9] rfl⟩
      intro k_15 ihk_15 u H locs ls hm hI
      obtain ⟨v10_73, v7_73⟩ := u
      obtain ⟨jk_15_0, rfl, rfl, hl⟩ := hI
      have hmk_15 : (4 * n_1.toInt - v10_73.toInt).toNat < k_15 + 1 := hm
      clear hm
      have jk_15_0 : 0 ≤ v10_73.toInt := jk_15_0
      have hl : lv_has ls 11 [(10, .int v10_73), (9, .int v9_52), (7, .long v7_73), (6, .int n_9), (5, .int n_8), (4, .int r_6), (3, .int n_1), (0, .ref h0), (1, .int k), (2, .int b)] := hl
      refine lv_iload hx hb dX9_shadowOf_73 (lv_at hl 0 rfl) ?_
      refine lv_iconst (v := 4) hx hb dX9_shadowOf_75 (by decide) ?_
      refine lv_iload_n hx hb dX9_shadowOf_76 rfl (lv_at hl 6 rfl) ?_
      refine lv_imul hx hb dX9_shadowOf_77 ?_
      refine lv_topi (fun n_16 en_16 => ?_)
      have tn_16 : n_16.toInt = 4 * n_1.toInt := pp_mul en_16 rfl rfl (by omega) (by omega)
      clear en_16
      have rc_17_x := pp_rng v10_73
      have rc_17_y := pp_rng n_16
      refine lv_icmp_ge (tgt := 138) hx hb dX9_shadowOf_78 (by decide) (fun c_17 => ?_) (fun c_17 => ?_)
      · skip
        have tc_17 : n_16.toInt ≤ v10_73.toInt := (fa_le _ _).mp c_17
        obtain ⟨n_18, en_18⟩ : ∃ y : Int32, y = v9_52 + 1 := ⟨_, rfl⟩
        have tn_18 : n_18.toInt = v9_52.toInt + 1 := pp_add en_18 rfl rfl (by omega) (by omega)
        refine lv_iinc (v := n_18) (lv' := [(9, .int n_18), (10, .int v10_73), (7, .long v7_73), (6, .int n_9), (5, .int n_8), (4, .int r_6), (3, .int n_1), (0, .ref h0), (1, .int k), (2, .int b)]) hx hb dX9_shadowOf_138 hl (k := 1) rfl (by rw [en_18]; rfl) (by decide) rfl (fun ls hl => ?_)
        clear en_18
        refine lv_goto (tgt := 52) hx hb dX9_shadowOf_141 (by decide) ?_
        exact ihk_10 (n_18, v7_73) _ _ _ (by show (4 * n_1.toInt - n_18.toInt).toNat < k_10; omega) ⟨(by first | omega | decide | (simp only [fa_lt, fa_le, fa_eq, and_true, true_and, and_false, false_and, not_true_eq_false, not_false_eq_true, li_0, li_1, li_2, li_3, li_4, li_5, li_6, li_7, li_8, li_9, li_10, li_12, li_15, li_16, li_20, li_30, li_34, li_38, li_40, li_63, li_64, li_65, li_78, li_120, li_1000, li_4000, li_10000, li_11077, li_255, li_65535, li_m1, li_m2, li_m1000000001, li_m1000000002, li_m1000000003, li_m1000000004, li_m1000000005, li_m1000000006, li_m1000000007, or_true, true_or, or_false, false_or, implies_true, true_implies, false_implies] <;> omega)), rfl, rfl, lv_sub hl [0, 2, 3, 4, 5, 6, 7, 8, 9] rfl⟩
      · skip
        have tc_17 : ¬ n_16.toInt ≤ v10_73.toInt := fun h => c_17 ((fa_le _ _).mpr h)
        refine lv_iload hx hb dX9_shadowOf_81 (lv_at hl 3 rfl) ?_
        refine lv_iload hx hb dX9_shadowOf_83 (lv_at hl 0 rfl) ?_
        refine lv_iadd hx hb dX9_shadowOf_85 ?_
        refine lv_topi (fun n_19 en_19 => ?_)
        clear en_19
        refine lv_bipush (v := 8) hx hb dX9_shadowOf_86 (by decide) ?_
        refine lv_icmp_ge (tgt := 138) hx hb dX9_shadowOf_88 (by decide) (fun c_20 => ?_) (fun c_20 => ?_)
        · skip
          have tc_20 : 8 ≤ n_19.toInt := (fa_le _ _).mp c_20
          obtain ⟨n_21, en_21⟩ : ∃ y : Int32, y = v9_52 + 1 := ⟨_, rfl⟩
          have tn_21 : n_21.toInt = v9_52.toInt + 1 := pp_add en_21 rfl rfl (by omega) (by omega)
          refine lv_iinc (v := n_21) (lv' := [(9, .int n_21), (10, .int v10_73), (7, .long v7_73), (6, .int n_9), (5, .int n_8), (4, .int r_6), (3, .int n_1), (0, .ref h0), (1, .int k), (2, .int b)]) hx hb dX9_shadowOf_138 hl (k := 1) rfl (by rw [en_21]; rfl) (by decide) rfl (fun ls hl => ?_)
          clear en_21
          refine lv_goto (tgt := 52) hx hb dX9_shadowOf_141 (by decide) ?_
          exact ihk_10 (n_21, v7_73) _ _ _ (by show (4 * n_1.toInt - n_21.toInt).toNat < k_10; omega) ⟨(by first | omega | decide | (simp only [fa_lt, fa_le, fa_eq, and_true, true_and, and_false, false_and, not_true_eq_false, not_false_eq_true, li_0, li_1, li_2, li_3, li_4, li_5, li_6, li_7, li_8, li_9, li_10, li_12, li_15, li_16, li_20, li_30, li_34, li_38, li_40, li_63, li_64, li_65, li_78, li_120, li_1000, li_4000, li_10000, li_11077, li_255, li_65535, li_m1, li_m2, li_m1000000001, li_m1000000002, li_m1000000003, li_m1000000004, li_m1000000005, li_m1000000006, li_m1000000007, or_true, true_or, or_false, false_or, implies_true, true_implies, false_implies] <;> omega)), rfl, rfl, lv_sub hl [0, 2, 3, 4, 5, 6, 7, 8, 9] rfl⟩
        · skip
          have tc_20 : ¬ 8 ≤ n_19.toInt := fun h => c_20 ((fa_le _ _).mpr h)
          refine lv_lload hx hb dX9_shadowOf_91 (lv_at hl 2 rfl) ?_
          refine lv_iload hx hb dX9_shadowOf_93 (lv_at hl 5 rfl) ?_
          refine lv_iload hx hb dX9_shadowOf_95 (lv_at hl 1 rfl) ?_
          refine lv_iload_n hx hb dX9_shadowOf_97 rfl (lv_at hl 6 rfl) ?_
          refine lv_idiv hx hb dX9_shadowOf_98 (pp_nz (by omega)) ?_
          refine lv_topi (fun n_22 en_22 => ?_)
          clear en_22
          refine lv_iload hx hb dX9_shadowOf_99 (lv_at hl 0 rfl) ?_
          refine lv_iload_n hx hb dX9_shadowOf_101 rfl (lv_at hl 6 rfl) ?_
          refine lv_idiv hx hb dX9_shadowOf_102 (pp_nz (by omega)) ?_
          refine lv_topi (fun n_23 en_23 => ?_)
          clear en_23
          have hPc := hP.sub (ws' := []) [] rfl
          have hKc := hK.sub (tys' := []) [] rfl
          refine vp_callSi (W.runS (As := [.int r_6, .int n_22, .int n_23]) (rest := [.long v7_73]) ⟨hx, hb, hml, hown, hts⟩ (m_has l dC dI ad r_6 n_22 n_23 ) (va_cwS 3 hts g_m_shadowOf_m_has_109 rfl rfl rfl (by decide +kernel) ⟨(Nat.le_of_ble_eq_true rfl), (Nat.le_of_ble_eq_true rfl)⟩) ⟨preS_blind, fun U hU hW => ⟨rfl, preS_at hU hW hPc hKc hev⟩⟩ rfl rfl hl.1 rfl (lv_room (Nat.le_of_ble_eq_true rfl)) dX9_shadowOf_103 ⟨(Nat.le_of_ble_eq_true rfl), (Nat.le_of_ble_eq_true rfl)⟩) (fun r_24 hw => ?_)
          refine lv_if_eq (tgt := 128) hx hb dX9_shadowOf_106 (by decide) (fun c_25 => ?_) (fun c_25 => ?_)
          · skip
            have tc_25 : r_24.toInt = 0 := (fa_eq _ _).mp c_25
            refine lv_lconst (v := 0) hx hb dX9_shadowOf_128 (by decide) ?_
            refine lv_lor hx hb dX9_shadowOf_129 ?_
            refine lv_topl (fun n_26 en_26 => ?_)
            clear en_26
            refine lv_lstore (lv' := [(7, .long n_26), (10, .int v10_73), (9, .int v9_52), (6, .int n_9), (5, .int n_8), (4, .int r_6), (3, .int n_1), (0, .ref h0), (1, .int k), (2, .int b)]) hx hb dX9_shadowOf_130 hl (by decide) rfl (fun ls hl => ?_)
            obtain ⟨n_27, en_27⟩ : ∃ y : Int32, y = v10_73 + 1 := ⟨_, rfl⟩
            have tn_27 : n_27.toInt = v10_73.toInt + 1 := pp_add en_27 rfl rfl (by omega) (by omega)
            refine lv_iinc (v := n_27) (lv' := [(10, .int n_27), (7, .long n_26), (9, .int v9_52), (6, .int n_9), (5, .int n_8), (4, .int r_6), (3, .int n_1), (0, .ref h0), (1, .int k), (2, .int b)]) hx hb dX9_shadowOf_132 hl (k := 1) rfl (by rw [en_27]; rfl) (by decide) rfl (fun ls hl => ?_)
            clear en_27
            refine lv_goto (tgt := 73) hx hb dX9_shadowOf_135 (by decide) ?_
            exact ihk_15 (n_27, n_26) _ _ _ (by show (4 * n_1.toInt - n_27.toInt).toNat < k_15; omega) ⟨(by first | omega | decide | (simp only [fa_lt, fa_le, fa_eq, and_true, true_and, and_false, false_and, not_true_eq_false, not_false_eq_true, li_0, li_1, li_2, li_3, li_4, li_5, li_6, li_7, li_8, li_9, li_10, li_12, li_15, li_16, li_20, li_30, li_34, li_38, li_40, li_63, li_64, li_65, li_78, li_120, li_1000, li_4000, li_10000, li_11077, li_255, li_65535, li_m1, li_m2, li_m1000000001, li_m1000000002, li_m1000000003, li_m1000000004, li_m1000000005, li_m1000000006, li_m1000000007, or_true, true_or, or_false, false_or, implies_true, true_implies, false_implies] <;> omega)), rfl, rfl, lv_sub hl [0, 2, 1, 3, 4, 5, 6, 7, 8, 9] rfl⟩
          · skip
            have tc_25 : ¬ r_24.toInt = 0 := fun h => c_25 ((fa_eq _ _).mpr h)
            refine lv_lconst (v := 1) hx hb dX9_shadowOf_109 (by decide) ?_
            refine lv_bipush (v := 8) hx hb dX9_shadowOf_110 (by decide) ?_
            refine lv_iload hx hb dX9_shadowOf_112 (lv_at hl 4 rfl) ?_
            refine lv_iload hx hb dX9_shadowOf_114 (lv_at hl 1 rfl) ?_
            refine lv_iadd hx hb dX9_shadowOf_116 ?_
            refine lv_topi (fun n_28 en_28 => ?_)
            clear en_28
            refine lv_imul hx hb dX9_shadowOf_117 ?_
            refine lv_topi (fun n_29 en_29 => ?_)
            clear en_29
            refine lv_iload hx hb dX9_shadowOf_118 (lv_at hl 3 rfl) ?_
            refine lv_iadd hx hb dX9_shadowOf_120 ?_
            refine lv_topi (fun n_30 en_30 => ?_)
            clear en_30
            refine lv_iload hx hb dX9_shadowOf_121 (lv_at hl 0 rfl) ?_
            refine lv_iadd hx hb dX9_shadowOf_123 ?_
            refine lv_topi (fun n_31 en_31 => ?_)
            clear en_31
            obtain ⟨n_32, en_32⟩ : ∃ z : Int64, z = (1 : Int64) <<< (n_31.toInt64 &&& 63) := ⟨_, rfl⟩
            refine lv_lshl (v := n_32) hx hb dX9_shadowOf_124 en_32.symm ?_
            clear en_32
            refine lv_goto (tgt := 129) hx hb dX9_shadowOf_125 (by decide) ?_
            refine lv_lor hx hb dX9_shadowOf_129 ?_
            refine lv_topl (fun n_33 en_33 => ?_)
            clear en_33
            refine lv_lstore (lv' := [(7, .long n_33), (10, .int v10_73), (9, .int v9_52), (6, .int n_9), (5, .int n_8), (4, .int r_6), (3, .int n_1), (0, .ref h0), (1, .int k), (2, .int b)]) hx hb dX9_shadowOf_130 hl (by decide) rfl (fun ls hl => ?_)
            obtain ⟨n_34, en_34⟩ : ∃ y : Int32, y = v10_73 + 1 := ⟨_, rfl⟩
            have tn_34 : n_34.toInt = v10_73.toInt + 1 := pp_add en_34 rfl rfl (by omega) (by omega)
            refine lv_iinc (v := n_34) (lv' := [(10, .int n_34), (7, .long n_33), (9, .int v9_52), (6, .int n_9), (5, .int n_8), (4, .int r_6), (3, .int n_1), (0, .ref h0), (1, .int k), (2, .int b)]) hx hb dX9_shadowOf_132 hl (k := 1) rfl (by rw [en_34]; rfl) (by decide) rfl (fun ls hl => ?_)
            clear en_34
            refine lv_goto (tgt := 73) hx hb dX9_shadowOf_135 (by decide) ?_
            exact ihk_15 (n_34, n_33) _ _ _ (by show (4 * n_1.toInt - n_34.toInt).toNat < k_15; omega) ⟨(by first | omega | decide | (simp only [fa_lt, fa_le, fa_eq, and_true, true_and, and_false, false_and, not_true_eq_false, not_false_eq_true, li_0, li_1, li_2, li_3, li_4, li_5, li_6, li_7, li_8, li_9, li_10, li_12, li_15, li_16, li_20, li_30, li_34, li_38, li_40, li_63, li_64, li_65, li_78, li_120, li_1000, li_4000, li_10000, li_11077, li_255, li_65535, li_m1, li_m2, li_m1000000001, li_m1000000002, li_m1000000003, li_m1000000004, li_m1000000005, li_m1000000006, li_m1000000007, or_true, true_or, or_false, false_or, implies_true, true_implies, false_implies] <;> omega)), rfl, rfl, lv_sub hl [0, 2, 1, 3, 4, 5, 6, 7, 8, 9] rfl⟩

def w_m_shadow : List Cond := .code yX9_shadow cX9_shadow 3 (some .long) :: (([.methodLink RX9 93 yX9_isShape, .instanceMethod yX9_isShape, .selects RX9 yX9_isShape yX9_isShape, .initialized RX9, .code yX9_isShape cX9_isShape 2 (some .boolean), .fieldLink RX9 9 "LampShapesModel" "now" "[I", .methodLink RX9 75 yX9_within, .static yX9_within, .code yX9_within cX9_within 3 (some .boolean), .constant RX9 74 (-1000000001), .methodLink RX9 84 yX9_finding, .instanceMethod yX9_finding, .selects RX9 yX9_finding yX9_finding, .code yX9_finding cX9_finding 2 (some .int), .fieldLink RX9 23 "LampShapesModel" "found" "[I", .methodLink RX9 126 yX9_isPlacing, .static yX9_isPlacing, .code yX9_isPlacing cX9_isPlacing 1 (some .boolean), .methodLink RX9 129 yX9_shadowOf, .instanceMethod yX9_shadowOf, .selects RX9 yX9_shadowOf yX9_shadowOf, .code yX9_shadowOf cX9_shadowOf 11 (some .long), .methodLink RX9 99 yX9_shapeIs, .instanceMethod yX9_shapeIs, .selects RX9 yX9_shapeIs yX9_shapeIs, .code yX9_shapeIs cX9_shapeIs 3 (some .int), .methodLink RX9 122 yX9_throwsOf, .static yX9_throwsOf, .code yX9_throwsOf cX9_throwsOf 8 (some .int), .methodLink RX9 112 yX9_mirrored, .static yX9_mirrored, .code yX9_mirrored cX9_mirrored 5 (some .int), .methodLink RX9 109 yX9_has, .static yX9_has, .code yX9_has cX9_has 3 (some .boolean), .methodLink RX9 114 yX9_turned, .static yX9_turned, .code yX9_turned cX9_turned 7 (some .int), .methodLink RX9 119 yX9_isBetween, .static yX9_isBetween, .code yX9_isBetween cX9_isBetween 6 (some .boolean), .methodLink RX9 116 yX9_isInner, .static yX9_isInner, .code yX9_isInner cX9_isInner 3 (some .boolean)] : List Cond) ++ wsX90)
set_option maxRecDepth 20000 in
theorem g_m_shadow_m_isShape_93 : GoodIn w_m_shadow (wsV RX9 93 RX9 yX9_isShape w_m_isShape) := goodIn_r _ [1, 2, 3, 4, 5, 6, 7, 8, 4, 9, 45, 46, 47, 48, 49, 50, 51, 52, 53, 54, 55, 56, 57, 58, 59, 60, 61, 62, 63, 64, 65, 66, 67, 68, 69, 70, 71, 72] rfl (by decide +kernel)
set_option maxRecDepth 20000 in
theorem g_m_shadow_mf_beyond_84 : GoodIn w_m_shadow (wsV RX9 84 RX9 yX9_finding w_mf_beyond) := goodIn_r _ [11, 12, 13, 4, 14, 15, 10, 45, 46, 47, 48, 49, 50, 51, 52, 53, 54, 55, 56, 57, 58, 59, 60, 61, 62, 63, 64, 65, 66, 67, 68, 69, 70, 71, 72] rfl (by decide +kernel)
set_option maxRecDepth 20000 in
theorem g_m_shadow_m_isPlacing_126 : GoodIn w_m_shadow (va_wsS RX9 126 yX9_isPlacing w_m_isPlacing) := goodIn_r _ [16, 17, 4, 18, 7, 8, 4, 9] rfl (by decide +kernel)
set_option maxRecDepth 20000 in
theorem g_m_shadow_m_shadowOf_129 : GoodIn w_m_shadow (wsV RX9 129 RX9 yX9_shadowOf w_m_shadowOf) := goodIn_r _ [19, 20, 21, 4, 22, 23, 24, 25, 4, 26, 6, 27, 28, 29, 30, 31, 32, 33, 34, 35, 7, 8, 9, 36, 37, 38, 39, 40, 41, 42, 43, 44, 45, 46, 47, 48, 49, 50, 51, 52, 53, 54, 55, 56, 57, 58, 59, 60, 61, 62, 63, 64, 65, 66, 67, 68, 69, 70, 71, 72] rfl (by decide +kernel)
set_option maxHeartbeats 4000000 in
set_option maxRecDepth 100000 in
theorem m_shadow (l : Launch) (dC : Nat → ClassId) (dI : Nat → Nat → Nat) (ad : Nat → Nat) (h0 : Nat) (a : Int32) (b : Int32) (a0 : Nat) (v1 : Value) (v2 : Value) (v3 : Value) (v4 : Value) (t0 : Nat) (v6 : Value) (v7 : Value) (v8 : Value) (v9 : Value) (v10 : Value) (v11 : Value) (v12 : Value) (v13 : Value) (v14 : Value) (v15 : Value) (v16 : Value) (v17 : Value) (v18 : Value) (v19 : Value) (v20 : Value) (v21 : Value) (v22 : Value) (v23 : Value) (v24 : Value) (v25 : Value) (v26 : Value) (v27 : Value) (tc : ClassId) (tf : Nat → Int32) (ac : ClassId) (nf : Nat → Int32) (sz : Nat) (hI : mI nf) : Met l yX9_shadow w_m_shadow ({ frames := 5, cells := 0, slots := 0, locals := 127 } : Room) (va_Pc [.ref h0, .int a, .int b] (preM dC dI ad [(tc, .int), (ac, .int)] [(h0, .inr (7, [.ref a0, v1, v2, v3, v4, .ref t0, v6, v7, v8, v9, v10, v11, v12, v13, v14, v15, v16, v17, v18, v19, v20, v21, v22, v23, v24, v25, v26, v27])), (t0, .inl (tc, 8, .inl tf)), (a0, .inl (ac, 38, .inl nf))] sz)) (va_Ql (fun (r : Int64) (_ : Unit) => True) (fun _ t => ∃ (tg : Nat → Int32), va_P (dC, dI) vwCl [(h0, .inr (7, [.ref a0, v1, v2, v3, v4, .ref t0, v6, v7, v8, v9, v10, v11, v12, v13, v14, v15, v16, v17, v18, v19, v20, v21, v22, v23, v24, v25, v26, v27])), (t0, .inl (tc, 8, .inl tg)), (a0, .inl (ac, 38, .inl nf))] t.heap ∧ va_K (dC, dI) vwCl [(tc, .int), (ac, .int)] t ∧ va_D (va_A [(h0, .inr (7, [.ref a0, v1, v2, v3, v4, .ref t0, v6, v7, v8, v9, v10, v11, v12, v13, v14, v15, v16, v17, v18, v19, v20, v21, v22, v23, v24, v25, v26, v27])), (t0, .inl (tc, 8, .inl tf)), (a0, .inl (ac, 38, .inl nf))] sz) [(h0, .inr (7, [.ref a0, v1, v2, v3, v4, .ref t0, v6, v7, v8, v9, v10, v11, v12, v13, v14, v15, v16, v17, v18, v19, v20, v21, v22, v23, v24, v25, v26, v27])), (t0, .inl (tc, 8, .inl tg)), (a0, .inl (ac, 38, .inl nf))]) (va_A [(h0, .inr (7, [.ref a0, v1, v2, v3, v4, .ref t0, v6, v7, v8, v9, v10, v11, v12, v13, v14, v15, v16, v17, v18, v19, v20, v21, v22, v23, v24, v25, v26, v27])), (t0, .inl (tc, 8, .inl tf)), (a0, .inl (ac, 38, .inl nf))] sz)) 0 0 (va_A [(h0, .inr (7, [.ref a0, v1, v2, v3, v4, .ref t0, v6, v7, v8, v9, v10, v11, v12, v13, v14, v15, v16, v17, v18, v19, v20, v21, v22, v23, v24, v25, v26, v27])), (t0, .inl (tc, 8, .inl tf)), (a0, .inl (ac, 38, .inl nf))] sz) := by
  refine Met.ofW (cc := cX9_shadow) (maxL := 3) (ret := (some .long)) (by decide) rfl ?_
  intro p e s m args below meth c s₁ B hml hv
  obtain ⟨rfl, hsz, hP, hK, hD0, hev⟩ := hv
  have hx := B.exec
  have hb := B.bytes
  have hr := B.returns
  have hts := atoms_spec (ws := w_m_shadow) B.pre
  have hown : s.vm.findClass RX9 = some m.cls := findClass_of_methodNamed B.named
  have hlocks := B.notSynchronized
  have inX9 : ∀ w ∈ wsX90, w ∈ w_m_shadow := fun w h => List.mem_cons_of_mem _ (List.mem_append_right _ h)
  subst hsz
  have hD := hD0.self (sz := s.heap.size)
  generalize hAe : va_A [(h0, .inr (7, [.ref a0, v1, v2, v3, v4, .ref t0, v6, v7, v8, v9, v10, v11, v12, v13, v14, v15, v16, v17, v18, v19, v20, v21, v22, v23, v24, v25, v26, v27])), (t0, .inl (tc, 8, .inl tf)), (a0, .inl (ac, 38, .inl nf))] s.heap.size = A at hD ⊢
  have hA : ∀ q : Nat, s.heap.size ≤ q → A q := fun q h => by rw [← hAe]; exact Or.inr h
  have hS : va_S A s.heap s.heap [] := va_S.rf
  have hP : va_P (dC, dI) vwCl [(h0, .inr (7, [.ref a0, v1, v2, v3, v4, .ref t0, v6, v7, v8, v9, v10, v11, v12, v13, v14, v15, v16, v17, v18, v19, v20, v21, v22, v23, v24, v25, v26, v27])), (t0, .inl (tc, 8, .inl tf)), (a0, .inl (ac, 38, .inl nf))] s.heap := hP
  have hl := lv_entry ([.ref h0, .int a, .int b]) (n := 3) (Nat.le_of_ble_eq_true rfl)
  rw [lg_entry_eq]
  generalize (lg_sl ([.ref h0, .int a, .int b]) ++ List.replicate (3 - (lg_sl ([.ref h0, .int a, .int b])).length) Slot.unset).toArray = ls at hl ⊢
  have hl : lv_has ls 3 [(0, .ref h0), (1, .int a), (2, .int b)] := hl
  refine lv_aload_n hx hb dX9_shadow_0 rfl (lv_at hl 0 rfl) ?_
  refine lv_iload_n hx hb dX9_shadow_1 rfl (lv_at hl 1 rfl) ?_
  have hPc := hP.sub (ws' := [(h0, .inr (7, [.ref a0, v1, v2, v3, v4, .ref t0, v6, v7, v8, v9, v10, v11, v12, v13, v14, v15, v16, v17, v18, v19, v20, v21, v22, v23, v24, v25, v26, v27])), (a0, .inl (ac, 38, .inl nf))]) [0, 2] rfl
  have hKc := hK.sub (tys' := [(ac, .int)]) [1] rfl
  refine vp_callSi (W.runV (As := [.int a]) (rest := []) ⟨hx, hb, hml, hown, hts⟩ (m_isShape l dC dI ad h0 a a0 v1 v2 v3 v4 (.ref t0) v6 v7 v8 v9 v10 v11 v12 v13 v14 v15 v16 v17 v18 v19 v20 v21 v22 v23 v24 v25 v26 v27 ac nf hI) (cwV 1 hts g_m_shadow_m_isShape_93 rfl rfl rfl (by decide +kernel) ⟨(Nat.le_of_ble_eq_true rfl), (Nat.le_of_ble_eq_true rfl)⟩) ⟨preS_blind, va_recv hKc hPc (ci := 7) (q0 := 0) rfl rfl, fun U hU hW => ⟨rfl, preS_at hU hW hPc hKc hev⟩⟩ rfl rfl hl.1 rfl (lv_room (Nat.le_of_ble_eq_true rfl)) dX9_shadow_2 ⟨(Nat.le_of_ble_eq_true rfl), (Nat.le_of_ble_eq_true rfl)⟩) (fun r_1 hw => ?_)
  have hr_1 : (r_1.toInt = 1 ∧ 0 ≤ a.toInt ∧ a.toInt < (nf 0).toInt ∧ a.toInt ≤ 8) ∨ r_1.toInt = 0 := hw
  refine lv_if_eq (tgt := 24) hx hb dX9_shadow_5 (by decide) (fun c_2 => ?_) (fun c_2 => ?_)
  · skip
    have tc_2 : r_1.toInt = 0 := (fa_eq _ _).mp c_2
    refine lv_aload_n hx hb dX9_shadow_24 rfl (lv_at hl 0 rfl) ?_
    refine lv_ldc hx hb hown (hts _ (List.mem_of_getElem? (i := 10) rfl)) dX9_shadow_25 ?_
    have hPc := hP.sub (ws' := [(h0, .inr (7, [.ref a0, v1, v2, v3, v4, .ref t0, v6, v7, v8, v9, v10, v11, v12, v13, v14, v15, v16, v17, v18, v19, v20, v21, v22, v23, v24, v25, v26, v27])), (t0, .inl (tc, 8, .inl tf))]) [0, 1] rfl
    have hKc := hK.sub (tys' := [(tc, .int)]) [0] rfl
    have hDc := hD.sub (ws' := [(h0, .inr (7, [.ref a0, v1, v2, v3, v4, .ref t0, v6, v7, v8, v9, v10, v11, v12, v13, v14, v15, v16, v17, v18, v19, v20, v21, v22, v23, v24, v25, v26, v27])), (t0, .inl (tc, 8, .inl tf))]) [0, 1] (by decide) rfl
    have hFc := va_free (wc := [(h0, .inr (7, [.ref a0, v1, v2, v3, v4, .ref t0, v6, v7, v8, v9, v10, v11, v12, v13, v14, v15, v16, v17, v18, v19, v20, v21, v22, v23, v24, v25, v26, v27])), (t0, .inl (tc, 8, .inl tf))]) hD hS hA [0, 1] rfl
    refine va_calli (va_runV (As := [.int (-1000000001)]) (rest := []) ⟨hx, hb, hml, hown, hts⟩ (mf_beyond l dC dI ad h0 (.ref a0) v1 v2 v3 v4 t0 v6 v7 v8 v9 v10 v11 v12 v13 v14 v15 v16 v17 v18 v19 v20 v21 v22 v23 v24 v25 v26 v27 tc tf s.heap.size ) (cwV 1 hts g_m_shadow_mf_beyond_84 rfl rfl rfl (by decide +kernel) ⟨(Nat.le_of_ble_eq_true rfl), (Nat.le_of_ble_eq_true rfl)⟩) ⟨preM_blind, va_recv hKc hPc (ci := 7) (q0 := 0) rfl rfl, fun U hU hW => ⟨rfl, preM_at hU hW hPc hKc hDc hev⟩⟩ rfl rfl hl.1 rfl (lv_room (Nat.le_of_ble_eq_true rfl)) dX9_shadow_27 ⟨(Nat.le_of_ble_eq_true rfl), (Nat.le_of_ble_eq_true rfl)⟩) hS (fun q _ h => hFc q h) hFc (fun r_3 u t H1 locs ht hvm hw hB hz1 hk1 hS => ?_)
    obtain ⟨tg_4, hP1, hK1, hD1⟩ := hB
    rw [ht] at hP1
    have hK1 := va_K.moved hvm.symm hK1
    obtain ⟨hP, hD⟩ := va_join (wr := [(a0, .inl (ac, 38, .inl nf))]) (w1 := [(h0, .inr (7, [.ref a0, v1, v2, v3, v4, .ref t0, v6, v7, v8, v9, v10, v11, v12, v13, v14, v15, v16, v17, v18, v19, v20, v21, v22, v23, v24, v25, v26, v27])), (t0, .inl (tc, 8, .inl tg_4))]) hP hD [0, 1] [2] rfl rfl (by decide) (by decide) hk1 hFc hP1 hD1
    generalize H1 = H at hP hS ⊢
    have hP : va_P (dC, dI) vwCl [(a0, .inl (ac, 38, .inl nf)), (h0, .inr (7, [.ref a0, v1, v2, v3, v4, .ref t0, v6, v7, v8, v9, v10, v11, v12, v13, v14, v15, v16, v17, v18, v19, v20, v21, v22, v23, v24, v25, v26, v27])), (t0, .inl (tc, 8, .inl tg_4))] H := hP
    have hD : va_D A [(a0, .inl (ac, 38, .inl nf)), (h0, .inr (7, [.ref a0, v1, v2, v3, v4, .ref t0, v6, v7, v8, v9, v10, v11, v12, v13, v14, v15, v16, v17, v18, v19, v20, v21, v22, v23, v24, v25, v26, v27])), (t0, .inl (tc, 8, .inl tg_4))] := hD
    subst hw
    refine lv_i2l (v := (-1000000001)) hx hb dX9_shadow_30 (by decide) ?_
    have hP9 := hP.sub (ws' := [(h0, .inr (7, [.ref a0, v1, v2, v3, v4, .ref t0, v6, v7, v8, v9, v10, v11, v12, v13, v14, v15, v16, v17, v18, v19, v20, v21, v22, v23, v24, v25, v26, v27])), (t0, .inl (tc, 8, .inl tg_4)), (a0, .inl (ac, 38, .inl nf))]) [1, 2, 0] rfl
    have hD9 := hD.sub (ws' := [(h0, .inr (7, [.ref a0, v1, v2, v3, v4, .ref t0, v6, v7, v8, v9, v10, v11, v12, v13, v14, v15, v16, v17, v18, v19, v20, v21, v22, v23, v24, v25, v26, v27])), (t0, .inl (tc, 8, .inl tg_4)), (a0, .inl (ac, 38, .inl nf))]) [1, 2, 0] (by decide) rfl
    have hK9 := hK.sub (tys' := [(tc, .int), (ac, .int)]) [0, 1] rfl
    exact W.lret (v := ((-1000000001) : Int64)) hx hb hr (fun t ht hW => ⟨⟨((-1000000001) : Int64), (), rfl, trivial, tg_4, by rw [ht]; exact hP9, va_K.moved hW.alike hK9, hD9⟩, hS.F ht⟩) hS.2.2 dX9_shadow_31
  · skip
    have tc_2 : ¬ r_1.toInt = 0 := fun h => c_2 ((fa_eq _ _).mpr h)
    have i_5 : 0 ≤ a.toInt ∧ a.toInt < (nf 0).toInt ∧ a.toInt ≤ 8 := by omega
    refine lv_iload_n hx hb dX9_shadow_8 rfl (lv_at hl 2 rfl) ?_
    have hPc := hP.sub (ws' := []) [] rfl
    have hKc := hK.sub (tys' := []) [] rfl
    refine vp_callSi (W.runS (As := [.int b]) (rest := []) ⟨hx, hb, hml, hown, hts⟩ (m_isPlacing l dC dI ad b ) (va_cwS 1 hts g_m_shadow_m_isPlacing_126 rfl rfl rfl (by decide +kernel) ⟨(Nat.le_of_ble_eq_true rfl), (Nat.le_of_ble_eq_true rfl)⟩) ⟨preS_blind, fun U hU hW => ⟨rfl, preS_at hU hW hPc hKc hev⟩⟩ rfl rfl hl.1 rfl (lv_room (Nat.le_of_ble_eq_true rfl)) dX9_shadow_9 ⟨(Nat.le_of_ble_eq_true rfl), (Nat.le_of_ble_eq_true rfl)⟩) (fun r_6 hw => ?_)
    refine lv_if_eq (tgt := 24) hx hb dX9_shadow_12 (by decide) (fun c_7 => ?_) (fun c_7 => ?_)
    · skip
      have tc_7 : r_6.toInt = 0 := (fa_eq _ _).mp c_7
      refine lv_aload_n hx hb dX9_shadow_24 rfl (lv_at hl 0 rfl) ?_
      refine lv_ldc hx hb hown (hts _ (List.mem_of_getElem? (i := 10) rfl)) dX9_shadow_25 ?_
      have hPc := hP.sub (ws' := [(h0, .inr (7, [.ref a0, v1, v2, v3, v4, .ref t0, v6, v7, v8, v9, v10, v11, v12, v13, v14, v15, v16, v17, v18, v19, v20, v21, v22, v23, v24, v25, v26, v27])), (t0, .inl (tc, 8, .inl tf))]) [0, 1] rfl
      have hKc := hK.sub (tys' := [(tc, .int)]) [0] rfl
      have hDc := hD.sub (ws' := [(h0, .inr (7, [.ref a0, v1, v2, v3, v4, .ref t0, v6, v7, v8, v9, v10, v11, v12, v13, v14, v15, v16, v17, v18, v19, v20, v21, v22, v23, v24, v25, v26, v27])), (t0, .inl (tc, 8, .inl tf))]) [0, 1] (by decide) rfl
      have hFc := va_free (wc := [(h0, .inr (7, [.ref a0, v1, v2, v3, v4, .ref t0, v6, v7, v8, v9, v10, v11, v12, v13, v14, v15, v16, v17, v18, v19, v20, v21, v22, v23, v24, v25, v26, v27])), (t0, .inl (tc, 8, .inl tf))]) hD hS hA [0, 1] rfl
      refine va_calli (va_runV (As := [.int (-1000000001)]) (rest := []) ⟨hx, hb, hml, hown, hts⟩ (mf_beyond l dC dI ad h0 (.ref a0) v1 v2 v3 v4 t0 v6 v7 v8 v9 v10 v11 v12 v13 v14 v15 v16 v17 v18 v19 v20 v21 v22 v23 v24 v25 v26 v27 tc tf s.heap.size ) (cwV 1 hts g_m_shadow_mf_beyond_84 rfl rfl rfl (by decide +kernel) ⟨(Nat.le_of_ble_eq_true rfl), (Nat.le_of_ble_eq_true rfl)⟩) ⟨preM_blind, va_recv hKc hPc (ci := 7) (q0 := 0) rfl rfl, fun U hU hW => ⟨rfl, preM_at hU hW hPc hKc hDc hev⟩⟩ rfl rfl hl.1 rfl (lv_room (Nat.le_of_ble_eq_true rfl)) dX9_shadow_27 ⟨(Nat.le_of_ble_eq_true rfl), (Nat.le_of_ble_eq_true rfl)⟩) hS (fun q _ h => hFc q h) hFc (fun r_8 u t H1 locs ht hvm hw hB hz1 hk1 hS => ?_)
      obtain ⟨tg_9, hP1, hK1, hD1⟩ := hB
      rw [ht] at hP1
      have hK1 := va_K.moved hvm.symm hK1
      obtain ⟨hP, hD⟩ := va_join (wr := [(a0, .inl (ac, 38, .inl nf))]) (w1 := [(h0, .inr (7, [.ref a0, v1, v2, v3, v4, .ref t0, v6, v7, v8, v9, v10, v11, v12, v13, v14, v15, v16, v17, v18, v19, v20, v21, v22, v23, v24, v25, v26, v27])), (t0, .inl (tc, 8, .inl tg_9))]) hP hD [0, 1] [2] rfl rfl (by decide) (by decide) hk1 hFc hP1 hD1
      generalize H1 = H at hP hS ⊢
      have hP : va_P (dC, dI) vwCl [(a0, .inl (ac, 38, .inl nf)), (h0, .inr (7, [.ref a0, v1, v2, v3, v4, .ref t0, v6, v7, v8, v9, v10, v11, v12, v13, v14, v15, v16, v17, v18, v19, v20, v21, v22, v23, v24, v25, v26, v27])), (t0, .inl (tc, 8, .inl tg_9))] H := hP
      have hD : va_D A [(a0, .inl (ac, 38, .inl nf)), (h0, .inr (7, [.ref a0, v1, v2, v3, v4, .ref t0, v6, v7, v8, v9, v10, v11, v12, v13, v14, v15, v16, v17, v18, v19, v20, v21, v22, v23, v24, v25, v26, v27])), (t0, .inl (tc, 8, .inl tg_9))] := hD
      subst hw
      refine lv_i2l (v := (-1000000001)) hx hb dX9_shadow_30 (by decide) ?_
      have hP9 := hP.sub (ws' := [(h0, .inr (7, [.ref a0, v1, v2, v3, v4, .ref t0, v6, v7, v8, v9, v10, v11, v12, v13, v14, v15, v16, v17, v18, v19, v20, v21, v22, v23, v24, v25, v26, v27])), (t0, .inl (tc, 8, .inl tg_9)), (a0, .inl (ac, 38, .inl nf))]) [1, 2, 0] rfl
      have hD9 := hD.sub (ws' := [(h0, .inr (7, [.ref a0, v1, v2, v3, v4, .ref t0, v6, v7, v8, v9, v10, v11, v12, v13, v14, v15, v16, v17, v18, v19, v20, v21, v22, v23, v24, v25, v26, v27])), (t0, .inl (tc, 8, .inl tg_9)), (a0, .inl (ac, 38, .inl nf))]) [1, 2, 0] (by decide) rfl
      have hK9 := hK.sub (tys' := [(tc, .int), (ac, .int)]) [0, 1] rfl
      exact W.lret (v := ((-1000000001) : Int64)) hx hb hr (fun t ht hW => ⟨⟨((-1000000001) : Int64), (), rfl, trivial, tg_9, by rw [ht]; exact hP9, va_K.moved hW.alike hK9, hD9⟩, hS.F ht⟩) hS.2.2 dX9_shadow_31
    · skip
      have tc_7 : ¬ r_6.toInt = 0 := fun h => c_7 ((fa_eq _ _).mpr h)
      refine lv_aload_n hx hb dX9_shadow_15 rfl (lv_at hl 0 rfl) ?_
      refine lv_iload_n hx hb dX9_shadow_16 rfl (lv_at hl 1 rfl) ?_
      refine lv_iload_n hx hb dX9_shadow_17 rfl (lv_at hl 2 rfl) ?_
      have hPc := hP.sub (ws' := [(h0, .inr (7, [.ref a0, v1, v2, v3, v4, .ref t0, v6, v7, v8, v9, v10, v11, v12, v13, v14, v15, v16, v17, v18, v19, v20, v21, v22, v23, v24, v25, v26, v27])), (a0, .inl (ac, 38, .inl nf))]) [0, 2] rfl
      have hKc := hK.sub (tys' := [(ac, .int)]) [1] rfl
      refine vp_callSl (W.runV (As := [.int a, .int b]) (rest := []) ⟨hx, hb, hml, hown, hts⟩ (m_shadowOf l dC dI ad h0 a b a0 v1 v2 v3 v4 (.ref t0) v6 v7 v8 v9 v10 v11 v12 v13 v14 v15 v16 v17 v18 v19 v20 v21 v22 v23 v24 v25 v26 v27 ac nf (by first | omega | decide | (simp only [fa_lt, fa_le, fa_eq, and_true, true_and, and_false, false_and, not_true_eq_false, not_false_eq_true, li_0, li_1, li_2, li_3, li_4, li_5, li_6, li_7, li_8, li_9, li_10, li_12, li_15, li_16, li_20, li_30, li_34, li_38, li_40, li_63, li_64, li_65, li_78, li_120, li_1000, li_4000, li_10000, li_11077, li_255, li_65535, li_m1, li_m2, li_m1000000001, li_m1000000002, li_m1000000003, li_m1000000004, li_m1000000005, li_m1000000006, li_m1000000007, or_true, true_or, or_false, false_or, implies_true, true_implies, false_implies] <;> omega))) (cwV 2 hts g_m_shadow_m_shadowOf_129 rfl rfl rfl (by decide +kernel) ⟨(Nat.le_of_ble_eq_true rfl), (Nat.le_of_ble_eq_true rfl)⟩) ⟨preS_blind, va_recv hKc hPc (ci := 7) (q0 := 0) rfl rfl, fun U hU hW => ⟨rfl, preS_at hU hW hPc hKc hev⟩⟩ rfl rfl hl.1 rfl (lv_room (Nat.le_of_ble_eq_true rfl)) dX9_shadow_18 ⟨(Nat.le_of_ble_eq_true rfl), (Nat.le_of_ble_eq_true rfl)⟩) (fun r_10 hw => ?_)
      refine lv_goto (tgt := 31) hx hb dX9_shadow_21 (by decide) ?_
      have hP9 := hP.sub (ws' := [(h0, .inr (7, [.ref a0, v1, v2, v3, v4, .ref t0, v6, v7, v8, v9, v10, v11, v12, v13, v14, v15, v16, v17, v18, v19, v20, v21, v22, v23, v24, v25, v26, v27])), (t0, .inl (tc, 8, .inl tf)), (a0, .inl (ac, 38, .inl nf))]) [0, 1, 2] rfl
      have hD9 := hD.sub (ws' := [(h0, .inr (7, [.ref a0, v1, v2, v3, v4, .ref t0, v6, v7, v8, v9, v10, v11, v12, v13, v14, v15, v16, v17, v18, v19, v20, v21, v22, v23, v24, v25, v26, v27])), (t0, .inl (tc, 8, .inl tf)), (a0, .inl (ac, 38, .inl nf))]) [0, 1, 2] (by decide) rfl
      have hK9 := hK.sub (tys' := [(tc, .int), (ac, .int)]) [0, 1] rfl
      exact W.lret (v := r_10) hx hb hr (fun t ht hW => ⟨⟨r_10, (), rfl, trivial, tf, by rw [ht]; exact hP9, va_K.moved hW.alike hK9, hD9⟩, hS.F ht⟩) hS.2.2 dX9_shadow_31

def w_m_hold : List Cond := .code yX9_hold cX9_hold 3 (some .int) :: (([.methodLink RX9 93 yX9_isShape, .instanceMethod yX9_isShape, .selects RX9 yX9_isShape yX9_isShape, .initialized RX9, .code yX9_isShape cX9_isShape 2 (some .boolean), .fieldLink RX9 9 "LampShapesModel" "now" "[I", .methodLink RX9 75 yX9_within, .static yX9_within, .code yX9_within cX9_within 3 (some .boolean), .constant RX9 74 (-1000000001), .methodLink RX9 84 yX9_finding, .instanceMethod yX9_finding, .selects RX9 yX9_finding yX9_finding, .code yX9_finding cX9_finding 2 (some .int), .fieldLink RX9 23 "LampShapesModel" "found" "[I", .methodLink RX9 126 yX9_isPlacing, .static yX9_isPlacing, .code yX9_isPlacing cX9_isPlacing 1 (some .boolean), .methodLink RX9 96 yX9_holdOf, .instanceMethod yX9_holdOf, .selects RX9 yX9_holdOf yX9_holdOf, .code yX9_holdOf cX9_holdOf 4 (some .int), .methodLink RX9 134 yX9_holds, .instanceMethod yX9_holds, .selects RX9 yX9_holds yX9_holds, .code yX9_holds cX9_holds 5 (some .int), .constant RX9 88 (-1000000002), .constant RX9 133 (-1000000005)] : List Cond) ++ wsX90)
set_option maxRecDepth 20000 in
theorem g_m_hold_m_isShape_93 : GoodIn w_m_hold (wsV RX9 93 RX9 yX9_isShape w_m_isShape) := goodIn_r _ [1, 2, 3, 4, 5, 6, 7, 8, 4, 9, 29, 30, 31, 32, 33, 34, 35, 36, 37, 38, 39, 40, 41, 42, 43, 44, 45, 46, 47, 48, 49, 50, 51, 52, 53, 54, 55, 56] rfl (by decide +kernel)
set_option maxRecDepth 20000 in
theorem g_m_hold_mf_beyond_84 : GoodIn w_m_hold (wsV RX9 84 RX9 yX9_finding w_mf_beyond) := goodIn_r _ [11, 12, 13, 4, 14, 15, 10, 29, 30, 31, 32, 33, 34, 35, 36, 37, 38, 39, 40, 41, 42, 43, 44, 45, 46, 47, 48, 49, 50, 51, 52, 53, 54, 55, 56] rfl (by decide +kernel)
set_option maxRecDepth 20000 in
theorem g_m_hold_m_isPlacing_126 : GoodIn w_m_hold (va_wsS RX9 126 yX9_isPlacing w_m_isPlacing) := goodIn_r _ [16, 17, 4, 18, 7, 8, 4, 9] rfl (by decide +kernel)
set_option maxRecDepth 20000 in
theorem g_m_hold_m_holdOf_96 : GoodIn w_m_hold (wsV RX9 96 RX9 yX9_holdOf w_m_holdOf) := goodIn_r _ [19, 20, 21, 4, 22, 6, 29, 30, 31, 32, 33, 34, 35, 36, 37, 38, 39, 40, 41, 42, 43, 44, 45, 46, 47, 48, 49, 50, 51, 52, 53, 54, 55, 56] rfl (by decide +kernel)
set_option maxRecDepth 20000 in
theorem g_m_hold_m_holds_134 : GoodIn w_m_hold (wsV RX9 134 RX9 yX9_holds w_m_holds) := goodIn_r _ [23, 24, 25, 4, 26, 19, 20, 21, 4, 22, 6, 29, 30, 31, 32, 33, 34, 35, 36, 37, 38, 39, 40, 41, 42, 43, 44, 45, 46, 47, 48, 49, 50, 51, 52, 53, 54, 55, 56] rfl (by decide +kernel)
set_option maxRecDepth 20000 in
theorem g_m_hold_mf_full_84 : GoodIn w_m_hold (wsV RX9 84 RX9 yX9_finding w_mf_full) := goodIn_r _ [11, 12, 13, 4, 14, 15, 10, 29, 30, 31, 32, 33, 34, 35, 36, 37, 38, 39, 40, 41, 42, 43, 44, 45, 46, 47, 48, 49, 50, 51, 52, 53, 54, 55, 56] rfl (by decide +kernel)
set_option maxRecDepth 20000 in
theorem g_m_hold_mf_state_84 : GoodIn w_m_hold (wsV RX9 84 RX9 yX9_finding w_mf_state) := goodIn_r _ [11, 12, 13, 4, 14, 15, 10, 29, 30, 31, 32, 33, 34, 35, 36, 37, 38, 39, 40, 41, 42, 43, 44, 45, 46, 47, 48, 49, 50, 51, 52, 53, 54, 55, 56] rfl (by decide +kernel)
set_option maxHeartbeats 4000000 in
set_option maxRecDepth 100000 in
theorem m_hold (l : Launch) (dC : Nat → ClassId) (dI : Nat → Nat → Nat) (ad : Nat → Nat) (h0 : Nat) (a : Int32) (b : Int32) (a0 : Nat) (v1 : Value) (v2 : Value) (v3 : Value) (v4 : Value) (t0 : Nat) (v6 : Value) (v7 : Value) (v8 : Value) (v9 : Value) (v10 : Value) (v11 : Value) (v12 : Value) (v13 : Value) (v14 : Value) (v15 : Value) (v16 : Value) (v17 : Value) (v18 : Value) (v19 : Value) (v20 : Value) (v21 : Value) (v22 : Value) (v23 : Value) (v24 : Value) (v25 : Value) (v26 : Value) (v27 : Value) (tc : ClassId) (tf : Nat → Int32) (ac : ClassId) (nf : Nat → Int32) (sz : Nat) (hI : mI nf) : Met l yX9_hold w_m_hold ({ frames := 2, cells := 0, slots := 0, locals := 47 } : Room) (va_Pc [.ref h0, .int a, .int b] (preM dC dI ad [(tc, .int), (ac, .int)] [(h0, .inr (7, [.ref a0, v1, v2, v3, v4, .ref t0, v6, v7, v8, v9, v10, v11, v12, v13, v14, v15, v16, v17, v18, v19, v20, v21, v22, v23, v24, v25, v26, v27])), (t0, .inl (tc, 8, .inl tf)), (a0, .inl (ac, 38, .inl nf))] sz)) (va_Qi (fun (r : Int32) (_ : Unit) => True) (fun _ t => ∃ (tg : Nat → Int32), ∃ (ng : Nat → Int32), (mI ng) ∧ ((ng 2).toInt = (nf 2).toInt) ∧ va_P (dC, dI) vwCl [(h0, .inr (7, [.ref a0, v1, v2, v3, v4, .ref t0, v6, v7, v8, v9, v10, v11, v12, v13, v14, v15, v16, v17, v18, v19, v20, v21, v22, v23, v24, v25, v26, v27])), (t0, .inl (tc, 8, .inl tg)), (a0, .inl (ac, 38, .inl ng))] t.heap ∧ va_K (dC, dI) vwCl [(tc, .int), (ac, .int)] t ∧ va_D (va_A [(h0, .inr (7, [.ref a0, v1, v2, v3, v4, .ref t0, v6, v7, v8, v9, v10, v11, v12, v13, v14, v15, v16, v17, v18, v19, v20, v21, v22, v23, v24, v25, v26, v27])), (t0, .inl (tc, 8, .inl tf)), (a0, .inl (ac, 38, .inl nf))] sz) [(h0, .inr (7, [.ref a0, v1, v2, v3, v4, .ref t0, v6, v7, v8, v9, v10, v11, v12, v13, v14, v15, v16, v17, v18, v19, v20, v21, v22, v23, v24, v25, v26, v27])), (t0, .inl (tc, 8, .inl tg)), (a0, .inl (ac, 38, .inl ng))]) (va_A [(h0, .inr (7, [.ref a0, v1, v2, v3, v4, .ref t0, v6, v7, v8, v9, v10, v11, v12, v13, v14, v15, v16, v17, v18, v19, v20, v21, v22, v23, v24, v25, v26, v27])), (t0, .inl (tc, 8, .inl tf)), (a0, .inl (ac, 38, .inl nf))] sz)) 0 0 (va_A [(h0, .inr (7, [.ref a0, v1, v2, v3, v4, .ref t0, v6, v7, v8, v9, v10, v11, v12, v13, v14, v15, v16, v17, v18, v19, v20, v21, v22, v23, v24, v25, v26, v27])), (t0, .inl (tc, 8, .inl tf)), (a0, .inl (ac, 38, .inl nf))] sz) := by
  refine Met.ofW (cc := cX9_hold) (maxL := 3) (ret := (some .int)) (by decide) rfl ?_
  intro p e s m args below meth c s₁ B hml hv
  obtain ⟨rfl, hsz, hP, hK, hD0, hev⟩ := hv
  have hx := B.exec
  have hb := B.bytes
  have hr := B.returns
  have hts := atoms_spec (ws := w_m_hold) B.pre
  have hown : s.vm.findClass RX9 = some m.cls := findClass_of_methodNamed B.named
  have hlocks := B.notSynchronized
  have inX9 : ∀ w ∈ wsX90, w ∈ w_m_hold := fun w h => List.mem_cons_of_mem _ (List.mem_append_right _ h)
  subst hsz
  have hD := hD0.self (sz := s.heap.size)
  generalize hAe : va_A [(h0, .inr (7, [.ref a0, v1, v2, v3, v4, .ref t0, v6, v7, v8, v9, v10, v11, v12, v13, v14, v15, v16, v17, v18, v19, v20, v21, v22, v23, v24, v25, v26, v27])), (t0, .inl (tc, 8, .inl tf)), (a0, .inl (ac, 38, .inl nf))] s.heap.size = A at hD ⊢
  have hA : ∀ q : Nat, s.heap.size ≤ q → A q := fun q h => by rw [← hAe]; exact Or.inr h
  have hS : va_S A s.heap s.heap [] := va_S.rf
  have hP : va_P (dC, dI) vwCl [(h0, .inr (7, [.ref a0, v1, v2, v3, v4, .ref t0, v6, v7, v8, v9, v10, v11, v12, v13, v14, v15, v16, v17, v18, v19, v20, v21, v22, v23, v24, v25, v26, v27])), (t0, .inl (tc, 8, .inl tf)), (a0, .inl (ac, 38, .inl nf))] s.heap := hP
  have hl := lv_entry ([.ref h0, .int a, .int b]) (n := 3) (Nat.le_of_ble_eq_true rfl)
  rw [lg_entry_eq]
  generalize (lg_sl ([.ref h0, .int a, .int b]) ++ List.replicate (3 - (lg_sl ([.ref h0, .int a, .int b])).length) Slot.unset).toArray = ls at hl ⊢
  have hl : lv_has ls 3 [(0, .ref h0), (1, .int a), (2, .int b)] := hl
  refine lv_aload_n hx hb dX9_hold_0 rfl (lv_at hl 0 rfl) ?_
  refine lv_iload_n hx hb dX9_hold_1 rfl (lv_at hl 1 rfl) ?_
  have hPc := hP.sub (ws' := [(h0, .inr (7, [.ref a0, v1, v2, v3, v4, .ref t0, v6, v7, v8, v9, v10, v11, v12, v13, v14, v15, v16, v17, v18, v19, v20, v21, v22, v23, v24, v25, v26, v27])), (a0, .inl (ac, 38, .inl nf))]) [0, 2] rfl
  have hKc := hK.sub (tys' := [(ac, .int)]) [1] rfl
  refine vp_callSi (W.runV (As := [.int a]) (rest := []) ⟨hx, hb, hml, hown, hts⟩ (m_isShape l dC dI ad h0 a a0 v1 v2 v3 v4 (.ref t0) v6 v7 v8 v9 v10 v11 v12 v13 v14 v15 v16 v17 v18 v19 v20 v21 v22 v23 v24 v25 v26 v27 ac nf hI) (cwV 1 hts g_m_hold_m_isShape_93 rfl rfl rfl (by decide +kernel) ⟨(Nat.le_of_ble_eq_true rfl), (Nat.le_of_ble_eq_true rfl)⟩) ⟨preS_blind, va_recv hKc hPc (ci := 7) (q0 := 0) rfl rfl, fun U hU hW => ⟨rfl, preS_at hU hW hPc hKc hev⟩⟩ rfl rfl hl.1 rfl (lv_room (Nat.le_of_ble_eq_true rfl)) dX9_hold_2 ⟨(Nat.le_of_ble_eq_true rfl), (Nat.le_of_ble_eq_true rfl)⟩) (fun r_1 hw => ?_)
  have hr_1 : (r_1.toInt = 1 ∧ 0 ≤ a.toInt ∧ a.toInt < (nf 0).toInt ∧ a.toInt ≤ 8) ∨ r_1.toInt = 0 := hw
  refine lv_if_eq (tgt := 15) hx hb dX9_hold_5 (by decide) (fun c_2 => ?_) (fun c_2 => ?_)
  · skip
    have tc_2 : r_1.toInt = 0 := (fa_eq _ _).mp c_2
    refine lv_aload_n hx hb dX9_hold_15 rfl (lv_at hl 0 rfl) ?_
    refine lv_ldc hx hb hown (hts _ (List.mem_of_getElem? (i := 10) rfl)) dX9_hold_16 ?_
    have hPc := hP.sub (ws' := [(h0, .inr (7, [.ref a0, v1, v2, v3, v4, .ref t0, v6, v7, v8, v9, v10, v11, v12, v13, v14, v15, v16, v17, v18, v19, v20, v21, v22, v23, v24, v25, v26, v27])), (t0, .inl (tc, 8, .inl tf))]) [0, 1] rfl
    have hKc := hK.sub (tys' := [(tc, .int)]) [0] rfl
    have hDc := hD.sub (ws' := [(h0, .inr (7, [.ref a0, v1, v2, v3, v4, .ref t0, v6, v7, v8, v9, v10, v11, v12, v13, v14, v15, v16, v17, v18, v19, v20, v21, v22, v23, v24, v25, v26, v27])), (t0, .inl (tc, 8, .inl tf))]) [0, 1] (by decide) rfl
    have hFc := va_free (wc := [(h0, .inr (7, [.ref a0, v1, v2, v3, v4, .ref t0, v6, v7, v8, v9, v10, v11, v12, v13, v14, v15, v16, v17, v18, v19, v20, v21, v22, v23, v24, v25, v26, v27])), (t0, .inl (tc, 8, .inl tf))]) hD hS hA [0, 1] rfl
    refine va_calli (va_runV (As := [.int (-1000000001)]) (rest := []) ⟨hx, hb, hml, hown, hts⟩ (mf_beyond l dC dI ad h0 (.ref a0) v1 v2 v3 v4 t0 v6 v7 v8 v9 v10 v11 v12 v13 v14 v15 v16 v17 v18 v19 v20 v21 v22 v23 v24 v25 v26 v27 tc tf s.heap.size ) (cwV 1 hts g_m_hold_mf_beyond_84 rfl rfl rfl (by decide +kernel) ⟨(Nat.le_of_ble_eq_true rfl), (Nat.le_of_ble_eq_true rfl)⟩) ⟨preM_blind, va_recv hKc hPc (ci := 7) (q0 := 0) rfl rfl, fun U hU hW => ⟨rfl, preM_at hU hW hPc hKc hDc hev⟩⟩ rfl rfl hl.1 rfl (lv_room (Nat.le_of_ble_eq_true rfl)) dX9_hold_18 ⟨(Nat.le_of_ble_eq_true rfl), (Nat.le_of_ble_eq_true rfl)⟩) hS (fun q _ h => hFc q h) hFc (fun r_3 u t H1 locs ht hvm hw hB hz1 hk1 hS => ?_)
    obtain ⟨tg_4, hP1, hK1, hD1⟩ := hB
    rw [ht] at hP1
    have hK1 := va_K.moved hvm.symm hK1
    obtain ⟨hP, hD⟩ := va_join (wr := [(a0, .inl (ac, 38, .inl nf))]) (w1 := [(h0, .inr (7, [.ref a0, v1, v2, v3, v4, .ref t0, v6, v7, v8, v9, v10, v11, v12, v13, v14, v15, v16, v17, v18, v19, v20, v21, v22, v23, v24, v25, v26, v27])), (t0, .inl (tc, 8, .inl tg_4))]) hP hD [0, 1] [2] rfl rfl (by decide) (by decide) hk1 hFc hP1 hD1
    generalize H1 = H at hP hS ⊢
    have hP : va_P (dC, dI) vwCl [(a0, .inl (ac, 38, .inl nf)), (h0, .inr (7, [.ref a0, v1, v2, v3, v4, .ref t0, v6, v7, v8, v9, v10, v11, v12, v13, v14, v15, v16, v17, v18, v19, v20, v21, v22, v23, v24, v25, v26, v27])), (t0, .inl (tc, 8, .inl tg_4))] H := hP
    have hD : va_D A [(a0, .inl (ac, 38, .inl nf)), (h0, .inr (7, [.ref a0, v1, v2, v3, v4, .ref t0, v6, v7, v8, v9, v10, v11, v12, v13, v14, v15, v16, v17, v18, v19, v20, v21, v22, v23, v24, v25, v26, v27])), (t0, .inl (tc, 8, .inl tg_4))] := hD
    subst hw
    have hP9 := hP.sub (ws' := [(h0, .inr (7, [.ref a0, v1, v2, v3, v4, .ref t0, v6, v7, v8, v9, v10, v11, v12, v13, v14, v15, v16, v17, v18, v19, v20, v21, v22, v23, v24, v25, v26, v27])), (t0, .inl (tc, 8, .inl tg_4)), (a0, .inl (ac, 38, .inl nf))]) [1, 2, 0] rfl
    have hD9 := hD.sub (ws' := [(h0, .inr (7, [.ref a0, v1, v2, v3, v4, .ref t0, v6, v7, v8, v9, v10, v11, v12, v13, v14, v15, v16, v17, v18, v19, v20, v21, v22, v23, v24, v25, v26, v27])), (t0, .inl (tc, 8, .inl tg_4)), (a0, .inl (ac, 38, .inl nf))]) [1, 2, 0] (by decide) rfl
    have hK9 := hK.sub (tys' := [(tc, .int), (ac, .int)]) [0, 1] rfl
    exact W.iret (v := ((-1000000001) : Int32)) hx hb hr (fun t ht hW => ⟨⟨((-1000000001) : Int32), (), rfl, trivial, tg_4, nf, hI, (by first | omega | decide | (simp only [fa_lt, fa_le, fa_eq, and_true, true_and, and_false, false_and, not_true_eq_false, not_false_eq_true, li_0, li_1, li_2, li_3, li_4, li_5, li_6, li_7, li_8, li_9, li_10, li_12, li_15, li_16, li_20, li_30, li_34, li_38, li_40, li_63, li_64, li_65, li_78, li_120, li_1000, li_4000, li_10000, li_11077, li_255, li_65535, li_m1, li_m2, li_m1000000001, li_m1000000002, li_m1000000003, li_m1000000004, li_m1000000005, li_m1000000006, li_m1000000007, or_true, true_or, or_false, false_or, implies_true, true_implies, false_implies] <;> omega)), by rw [ht]; exact hP9, va_K.moved hW.alike hK9, hD9⟩, hS.F ht⟩) hS.2.2 dX9_hold_21
  · skip
    have tc_2 : ¬ r_1.toInt = 0 := fun h => c_2 ((fa_eq _ _).mpr h)
    have i_5 : 0 ≤ a.toInt ∧ a.toInt < (nf 0).toInt ∧ a.toInt ≤ 8 := by omega
    refine lv_iload_n hx hb dX9_hold_8 rfl (lv_at hl 2 rfl) ?_
    have hPc := hP.sub (ws' := []) [] rfl
    have hKc := hK.sub (tys' := []) [] rfl
    refine vp_callSi (W.runS (As := [.int b]) (rest := []) ⟨hx, hb, hml, hown, hts⟩ (m_isPlacing l dC dI ad b ) (va_cwS 1 hts g_m_hold_m_isPlacing_126 rfl rfl rfl (by decide +kernel) ⟨(Nat.le_of_ble_eq_true rfl), (Nat.le_of_ble_eq_true rfl)⟩) ⟨preS_blind, fun U hU hW => ⟨rfl, preS_at hU hW hPc hKc hev⟩⟩ rfl rfl hl.1 rfl (lv_room (Nat.le_of_ble_eq_true rfl)) dX9_hold_9 ⟨(Nat.le_of_ble_eq_true rfl), (Nat.le_of_ble_eq_true rfl)⟩) (fun r_6 hw => ?_)
    refine lv_if_ne (tgt := 22) hx hb dX9_hold_12 (by decide) (fun c_7 => ?_) (fun c_7 => ?_)
    · skip
      have tc_7 : ¬ r_6.toInt = 0 := fun h => c_7 ((fa_eq _ _).mpr h)
      refine lv_aload_n hx hb dX9_hold_22 rfl (lv_at hl 0 rfl) ?_
      refine lv_iload_n hx hb dX9_hold_23 rfl (lv_at hl 1 rfl) ?_
      have hPc := hP.sub (ws' := [(h0, .inr (7, [.ref a0, v1, v2, v3, v4, .ref t0, v6, v7, v8, v9, v10, v11, v12, v13, v14, v15, v16, v17, v18, v19, v20, v21, v22, v23, v24, v25, v26, v27])), (a0, .inl (ac, 38, .inl nf))]) [0, 2] rfl
      have hKc := hK.sub (tys' := [(ac, .int)]) [1] rfl
      refine vp_callSi (W.runV (As := [.int a]) (rest := []) ⟨hx, hb, hml, hown, hts⟩ (m_holdOf l dC dI ad h0 a a0 v1 v2 v3 v4 (.ref t0) v6 v7 v8 v9 v10 v11 v12 v13 v14 v15 v16 v17 v18 v19 v20 v21 v22 v23 v24 v25 v26 v27 ac nf hI) (cwV 1 hts g_m_hold_m_holdOf_96 rfl rfl rfl (by decide +kernel) ⟨(Nat.le_of_ble_eq_true rfl), (Nat.le_of_ble_eq_true rfl)⟩) ⟨preS_blind, va_recv hKc hPc (ci := 7) (q0 := 0) rfl rfl, fun U hU hW => ⟨rfl, preS_at hU hW hPc hKc hev⟩⟩ rfl rfl hl.1 rfl (lv_room (Nat.le_of_ble_eq_true rfl)) dX9_hold_24 ⟨(Nat.le_of_ble_eq_true rfl), (Nat.le_of_ble_eq_true rfl)⟩) (fun r_8 hw => ?_)
      have hr_8 : (-1) ≤ r_8.toInt ∧ r_8.toInt ≤ 3 ∧ ((0 ≤ r_8.toInt ∧ hF nf a.toInt) ∨ (r_8.toInt = (-1) ∧ ¬ hF nf a.toInt)) := hw
      refine lv_if_lt (tgt := 37) hx hb dX9_hold_27 (by decide) (fun c_9 => ?_) (fun c_9 => ?_)
      · skip
        have tc_9 : r_8.toInt < 0 := (fa_lt _ _).mp c_9
        refine lv_aload_n hx hb dX9_hold_37 rfl (lv_at hl 0 rfl) ?_
        refine lv_iconst (v := (-1)) hx hb dX9_hold_38 (by decide) ?_
        have hPc := hP.sub (ws' := [(h0, .inr (7, [.ref a0, v1, v2, v3, v4, .ref t0, v6, v7, v8, v9, v10, v11, v12, v13, v14, v15, v16, v17, v18, v19, v20, v21, v22, v23, v24, v25, v26, v27])), (a0, .inl (ac, 38, .inl nf))]) [0, 2] rfl
        have hKc := hK.sub (tys' := [(ac, .int)]) [1] rfl
        refine vp_callSi (W.runV (As := [.int (-1)]) (rest := []) ⟨hx, hb, hml, hown, hts⟩ (m_holdOf l dC dI ad h0 (-1) a0 v1 v2 v3 v4 (.ref t0) v6 v7 v8 v9 v10 v11 v12 v13 v14 v15 v16 v17 v18 v19 v20 v21 v22 v23 v24 v25 v26 v27 ac nf hI) (cwV 1 hts g_m_hold_m_holdOf_96 rfl rfl rfl (by decide +kernel) ⟨(Nat.le_of_ble_eq_true rfl), (Nat.le_of_ble_eq_true rfl)⟩) ⟨preS_blind, va_recv hKc hPc (ci := 7) (q0 := 0) rfl rfl, fun U hU hW => ⟨rfl, preS_at hU hW hPc hKc hev⟩⟩ rfl rfl hl.1 rfl (lv_room (Nat.le_of_ble_eq_true rfl)) dX9_hold_39 ⟨(Nat.le_of_ble_eq_true rfl), (Nat.le_of_ble_eq_true rfl)⟩) (fun r_10 hw => ?_)
        have hr_10 : (-1) ≤ r_10.toInt ∧ r_10.toInt ≤ 3 ∧ ((0 ≤ r_10.toInt ∧ hF nf (-1)) ∨ (r_10.toInt = (-1) ∧ ¬ hF nf (-1))) := hw
        refine lv_if_ge (tgt := 54) hx hb dX9_hold_42 (by decide) (fun c_11 => ?_) (fun c_11 => ?_)
        · skip
          have tc_11 : 0 ≤ r_10.toInt := (fa_le _ _).mp c_11
          refine lv_aload_n hx hb dX9_hold_54 rfl (lv_at hl 0 rfl) ?_
          refine lv_iload_n hx hb dX9_hold_55 rfl (lv_at hl 1 rfl) ?_
          refine lv_iload_n hx hb dX9_hold_56 rfl (lv_at hl 2 rfl) ?_
          have hPc := hP.sub (ws' := [(h0, .inr (7, [.ref a0, v1, v2, v3, v4, .ref t0, v6, v7, v8, v9, v10, v11, v12, v13, v14, v15, v16, v17, v18, v19, v20, v21, v22, v23, v24, v25, v26, v27])), (a0, .inl (ac, 38, .inl nf))]) [0, 2] rfl
          have hKc := hK.sub (tys' := [(ac, .int)]) [1] rfl
          have hDc := hD.sub (ws' := [(h0, .inr (7, [.ref a0, v1, v2, v3, v4, .ref t0, v6, v7, v8, v9, v10, v11, v12, v13, v14, v15, v16, v17, v18, v19, v20, v21, v22, v23, v24, v25, v26, v27])), (a0, .inl (ac, 38, .inl nf))]) [0, 2] (by decide) rfl
          have hFc := va_free (wc := [(h0, .inr (7, [.ref a0, v1, v2, v3, v4, .ref t0, v6, v7, v8, v9, v10, v11, v12, v13, v14, v15, v16, v17, v18, v19, v20, v21, v22, v23, v24, v25, v26, v27])), (a0, .inl (ac, 38, .inl nf))]) hD hS hA [0, 2] rfl
          refine va_calli (va_runV (As := [.int a, .int b]) (rest := []) ⟨hx, hb, hml, hown, hts⟩ (m_holds l dC dI ad h0 a b a0 v1 v2 v3 v4 (.ref t0) v6 v7 v8 v9 v10 v11 v12 v13 v14 v15 v16 v17 v18 v19 v20 v21 v22 v23 v24 v25 v26 v27 ac nf s.heap.size hI (by first | omega | decide | (simp only [fa_lt, fa_le, fa_eq, and_true, true_and, and_false, false_and, not_true_eq_false, not_false_eq_true, li_0, li_1, li_2, li_3, li_4, li_5, li_6, li_7, li_8, li_9, li_10, li_12, li_15, li_16, li_20, li_30, li_34, li_38, li_40, li_63, li_64, li_65, li_78, li_120, li_1000, li_4000, li_10000, li_11077, li_255, li_65535, li_m1, li_m2, li_m1000000001, li_m1000000002, li_m1000000003, li_m1000000004, li_m1000000005, li_m1000000006, li_m1000000007, or_true, true_or, or_false, false_or, implies_true, true_implies, false_implies] <;> omega)) (hF_of hr_10 (by omega)) (hF_not hr_8 (by omega))) (cwV 2 hts g_m_hold_m_holds_134 rfl rfl rfl (by decide +kernel) ⟨(Nat.le_of_ble_eq_true rfl), (Nat.le_of_ble_eq_true rfl)⟩) ⟨preM_blind, va_recv hKc hPc (ci := 7) (q0 := 0) rfl rfl, fun U hU hW => ⟨rfl, preM_at hU hW hPc hKc hDc hev⟩⟩ rfl rfl hl.1 rfl (lv_room (Nat.le_of_ble_eq_true rfl)) dX9_hold_57 ⟨(Nat.le_of_ble_eq_true rfl), (Nat.le_of_ble_eq_true rfl)⟩) hS (fun q _ h => hFc q h) hFc (fun r_12 u t H1 locs ht hvm hw hB hz1 hk1 hS => ?_)
          obtain ⟨ng_13, hq_14, hq_15, hq_16, hP1, hK1, hD1⟩ := hB
          rw [ht] at hP1
          have hK1 := va_K.moved hvm.symm hK1
          obtain ⟨hP, hD⟩ := va_join (wr := [(t0, .inl (tc, 8, .inl tf))]) (w1 := [(h0, .inr (7, [.ref a0, v1, v2, v3, v4, .ref t0, v6, v7, v8, v9, v10, v11, v12, v13, v14, v15, v16, v17, v18, v19, v20, v21, v22, v23, v24, v25, v26, v27])), (a0, .inl (ac, 38, .inl ng_13))]) hP hD [0, 2] [1] rfl rfl (by decide) (by decide) hk1 hFc hP1 hD1
          generalize H1 = H at hP hS ⊢
          have hP : va_P (dC, dI) vwCl [(t0, .inl (tc, 8, .inl tf)), (h0, .inr (7, [.ref a0, v1, v2, v3, v4, .ref t0, v6, v7, v8, v9, v10, v11, v12, v13, v14, v15, v16, v17, v18, v19, v20, v21, v22, v23, v24, v25, v26, v27])), (a0, .inl (ac, 38, .inl ng_13))] H := hP
          have hD : va_D A [(t0, .inl (tc, 8, .inl tf)), (h0, .inr (7, [.ref a0, v1, v2, v3, v4, .ref t0, v6, v7, v8, v9, v10, v11, v12, v13, v14, v15, v16, v17, v18, v19, v20, v21, v22, v23, v24, v25, v26, v27])), (a0, .inl (ac, 38, .inl ng_13))] := hD
          have hr_12 : 0 ≤ r_12.toInt := hw
          have hP9 := hP.sub (ws' := [(h0, .inr (7, [.ref a0, v1, v2, v3, v4, .ref t0, v6, v7, v8, v9, v10, v11, v12, v13, v14, v15, v16, v17, v18, v19, v20, v21, v22, v23, v24, v25, v26, v27])), (t0, .inl (tc, 8, .inl tf)), (a0, .inl (ac, 38, .inl ng_13))]) [1, 0, 2] rfl
          have hD9 := hD.sub (ws' := [(h0, .inr (7, [.ref a0, v1, v2, v3, v4, .ref t0, v6, v7, v8, v9, v10, v11, v12, v13, v14, v15, v16, v17, v18, v19, v20, v21, v22, v23, v24, v25, v26, v27])), (t0, .inl (tc, 8, .inl tf)), (a0, .inl (ac, 38, .inl ng_13))]) [1, 0, 2] (by decide) rfl
          have hK9 := hK.sub (tys' := [(tc, .int), (ac, .int)]) [0, 1] rfl
          exact W.iret (v := r_12) hx hb hr (fun t ht hW => ⟨⟨r_12, (), rfl, trivial, tf, ng_13, hq_14, (by first | omega | decide | (simp only [fa_lt, fa_le, fa_eq, and_true, true_and, and_false, false_and, not_true_eq_false, not_false_eq_true, li_0, li_1, li_2, li_3, li_4, li_5, li_6, li_7, li_8, li_9, li_10, li_12, li_15, li_16, li_20, li_30, li_34, li_38, li_40, li_63, li_64, li_65, li_78, li_120, li_1000, li_4000, li_10000, li_11077, li_255, li_65535, li_m1, li_m2, li_m1000000001, li_m1000000002, li_m1000000003, li_m1000000004, li_m1000000005, li_m1000000006, li_m1000000007, or_true, true_or, or_false, false_or, implies_true, true_implies, false_implies] <;> omega)), by rw [ht]; exact hP9, va_K.moved hW.alike hK9, hD9⟩, hS.F ht⟩) hS.2.2 dX9_hold_60
        · skip
          have tc_11 : ¬ 0 ≤ r_10.toInt := fun h => c_11 ((fa_le _ _).mpr h)
          refine lv_aload_n hx hb dX9_hold_45 rfl (lv_at hl 0 rfl) ?_
          refine lv_ldc hx hb hown (hts _ (List.mem_of_getElem? (i := 27) rfl)) dX9_hold_46 ?_
          have hPc := hP.sub (ws' := [(h0, .inr (7, [.ref a0, v1, v2, v3, v4, .ref t0, v6, v7, v8, v9, v10, v11, v12, v13, v14, v15, v16, v17, v18, v19, v20, v21, v22, v23, v24, v25, v26, v27])), (t0, .inl (tc, 8, .inl tf))]) [0, 1] rfl
          have hKc := hK.sub (tys' := [(tc, .int)]) [0] rfl
          have hDc := hD.sub (ws' := [(h0, .inr (7, [.ref a0, v1, v2, v3, v4, .ref t0, v6, v7, v8, v9, v10, v11, v12, v13, v14, v15, v16, v17, v18, v19, v20, v21, v22, v23, v24, v25, v26, v27])), (t0, .inl (tc, 8, .inl tf))]) [0, 1] (by decide) rfl
          have hFc := va_free (wc := [(h0, .inr (7, [.ref a0, v1, v2, v3, v4, .ref t0, v6, v7, v8, v9, v10, v11, v12, v13, v14, v15, v16, v17, v18, v19, v20, v21, v22, v23, v24, v25, v26, v27])), (t0, .inl (tc, 8, .inl tf))]) hD hS hA [0, 1] rfl
          refine va_calli (va_runV (As := [.int (-1000000002)]) (rest := []) ⟨hx, hb, hml, hown, hts⟩ (mf_full l dC dI ad h0 (.ref a0) v1 v2 v3 v4 t0 v6 v7 v8 v9 v10 v11 v12 v13 v14 v15 v16 v17 v18 v19 v20 v21 v22 v23 v24 v25 v26 v27 tc tf s.heap.size ) (cwV 1 hts g_m_hold_mf_full_84 rfl rfl rfl (by decide +kernel) ⟨(Nat.le_of_ble_eq_true rfl), (Nat.le_of_ble_eq_true rfl)⟩) ⟨preM_blind, va_recv hKc hPc (ci := 7) (q0 := 0) rfl rfl, fun U hU hW => ⟨rfl, preM_at hU hW hPc hKc hDc hev⟩⟩ rfl rfl hl.1 rfl (lv_room (Nat.le_of_ble_eq_true rfl)) dX9_hold_48 ⟨(Nat.le_of_ble_eq_true rfl), (Nat.le_of_ble_eq_true rfl)⟩) hS (fun q _ h => hFc q h) hFc (fun r_17 u t H1 locs ht hvm hw hB hz1 hk1 hS => ?_)
          obtain ⟨tg_18, hP1, hK1, hD1⟩ := hB
          rw [ht] at hP1
          have hK1 := va_K.moved hvm.symm hK1
          obtain ⟨hP, hD⟩ := va_join (wr := [(a0, .inl (ac, 38, .inl nf))]) (w1 := [(h0, .inr (7, [.ref a0, v1, v2, v3, v4, .ref t0, v6, v7, v8, v9, v10, v11, v12, v13, v14, v15, v16, v17, v18, v19, v20, v21, v22, v23, v24, v25, v26, v27])), (t0, .inl (tc, 8, .inl tg_18))]) hP hD [0, 1] [2] rfl rfl (by decide) (by decide) hk1 hFc hP1 hD1
          generalize H1 = H at hP hS ⊢
          have hP : va_P (dC, dI) vwCl [(a0, .inl (ac, 38, .inl nf)), (h0, .inr (7, [.ref a0, v1, v2, v3, v4, .ref t0, v6, v7, v8, v9, v10, v11, v12, v13, v14, v15, v16, v17, v18, v19, v20, v21, v22, v23, v24, v25, v26, v27])), (t0, .inl (tc, 8, .inl tg_18))] H := hP
          have hD : va_D A [(a0, .inl (ac, 38, .inl nf)), (h0, .inr (7, [.ref a0, v1, v2, v3, v4, .ref t0, v6, v7, v8, v9, v10, v11, v12, v13, v14, v15, v16, v17, v18, v19, v20, v21, v22, v23, v24, v25, v26, v27])), (t0, .inl (tc, 8, .inl tg_18))] := hD
          subst hw
          refine lv_goto (tgt := 60) hx hb dX9_hold_51 (by decide) ?_
          have hP9 := hP.sub (ws' := [(h0, .inr (7, [.ref a0, v1, v2, v3, v4, .ref t0, v6, v7, v8, v9, v10, v11, v12, v13, v14, v15, v16, v17, v18, v19, v20, v21, v22, v23, v24, v25, v26, v27])), (t0, .inl (tc, 8, .inl tg_18)), (a0, .inl (ac, 38, .inl nf))]) [1, 2, 0] rfl
          have hD9 := hD.sub (ws' := [(h0, .inr (7, [.ref a0, v1, v2, v3, v4, .ref t0, v6, v7, v8, v9, v10, v11, v12, v13, v14, v15, v16, v17, v18, v19, v20, v21, v22, v23, v24, v25, v26, v27])), (t0, .inl (tc, 8, .inl tg_18)), (a0, .inl (ac, 38, .inl nf))]) [1, 2, 0] (by decide) rfl
          have hK9 := hK.sub (tys' := [(tc, .int), (ac, .int)]) [0, 1] rfl
          exact W.iret (v := ((-1000000002) : Int32)) hx hb hr (fun t ht hW => ⟨⟨((-1000000002) : Int32), (), rfl, trivial, tg_18, nf, hI, (by first | omega | decide | (simp only [fa_lt, fa_le, fa_eq, and_true, true_and, and_false, false_and, not_true_eq_false, not_false_eq_true, li_0, li_1, li_2, li_3, li_4, li_5, li_6, li_7, li_8, li_9, li_10, li_12, li_15, li_16, li_20, li_30, li_34, li_38, li_40, li_63, li_64, li_65, li_78, li_120, li_1000, li_4000, li_10000, li_11077, li_255, li_65535, li_m1, li_m2, li_m1000000001, li_m1000000002, li_m1000000003, li_m1000000004, li_m1000000005, li_m1000000006, li_m1000000007, or_true, true_or, or_false, false_or, implies_true, true_implies, false_implies] <;> omega)), by rw [ht]; exact hP9, va_K.moved hW.alike hK9, hD9⟩, hS.F ht⟩) hS.2.2 dX9_hold_60
      · skip
        have tc_9 : ¬ r_8.toInt < 0 := fun h => c_9 ((fa_lt _ _).mpr h)
        refine lv_aload_n hx hb dX9_hold_30 rfl (lv_at hl 0 rfl) ?_
        refine lv_ldc hx hb hown (hts _ (List.mem_of_getElem? (i := 28) rfl)) dX9_hold_31 ?_
        have hPc := hP.sub (ws' := [(h0, .inr (7, [.ref a0, v1, v2, v3, v4, .ref t0, v6, v7, v8, v9, v10, v11, v12, v13, v14, v15, v16, v17, v18, v19, v20, v21, v22, v23, v24, v25, v26, v27])), (t0, .inl (tc, 8, .inl tf))]) [0, 1] rfl
        have hKc := hK.sub (tys' := [(tc, .int)]) [0] rfl
        have hDc := hD.sub (ws' := [(h0, .inr (7, [.ref a0, v1, v2, v3, v4, .ref t0, v6, v7, v8, v9, v10, v11, v12, v13, v14, v15, v16, v17, v18, v19, v20, v21, v22, v23, v24, v25, v26, v27])), (t0, .inl (tc, 8, .inl tf))]) [0, 1] (by decide) rfl
        have hFc := va_free (wc := [(h0, .inr (7, [.ref a0, v1, v2, v3, v4, .ref t0, v6, v7, v8, v9, v10, v11, v12, v13, v14, v15, v16, v17, v18, v19, v20, v21, v22, v23, v24, v25, v26, v27])), (t0, .inl (tc, 8, .inl tf))]) hD hS hA [0, 1] rfl
        refine va_calli (va_runV (As := [.int (-1000000005)]) (rest := []) ⟨hx, hb, hml, hown, hts⟩ (mf_state l dC dI ad h0 (.ref a0) v1 v2 v3 v4 t0 v6 v7 v8 v9 v10 v11 v12 v13 v14 v15 v16 v17 v18 v19 v20 v21 v22 v23 v24 v25 v26 v27 tc tf s.heap.size ) (cwV 1 hts g_m_hold_mf_state_84 rfl rfl rfl (by decide +kernel) ⟨(Nat.le_of_ble_eq_true rfl), (Nat.le_of_ble_eq_true rfl)⟩) ⟨preM_blind, va_recv hKc hPc (ci := 7) (q0 := 0) rfl rfl, fun U hU hW => ⟨rfl, preM_at hU hW hPc hKc hDc hev⟩⟩ rfl rfl hl.1 rfl (lv_room (Nat.le_of_ble_eq_true rfl)) dX9_hold_33 ⟨(Nat.le_of_ble_eq_true rfl), (Nat.le_of_ble_eq_true rfl)⟩) hS (fun q _ h => hFc q h) hFc (fun r_19 u t H1 locs ht hvm hw hB hz1 hk1 hS => ?_)
        obtain ⟨tg_20, hP1, hK1, hD1⟩ := hB
        rw [ht] at hP1
        have hK1 := va_K.moved hvm.symm hK1
        obtain ⟨hP, hD⟩ := va_join (wr := [(a0, .inl (ac, 38, .inl nf))]) (w1 := [(h0, .inr (7, [.ref a0, v1, v2, v3, v4, .ref t0, v6, v7, v8, v9, v10, v11, v12, v13, v14, v15, v16, v17, v18, v19, v20, v21, v22, v23, v24, v25, v26, v27])), (t0, .inl (tc, 8, .inl tg_20))]) hP hD [0, 1] [2] rfl rfl (by decide) (by decide) hk1 hFc hP1 hD1
        generalize H1 = H at hP hS ⊢
        have hP : va_P (dC, dI) vwCl [(a0, .inl (ac, 38, .inl nf)), (h0, .inr (7, [.ref a0, v1, v2, v3, v4, .ref t0, v6, v7, v8, v9, v10, v11, v12, v13, v14, v15, v16, v17, v18, v19, v20, v21, v22, v23, v24, v25, v26, v27])), (t0, .inl (tc, 8, .inl tg_20))] H := hP
        have hD : va_D A [(a0, .inl (ac, 38, .inl nf)), (h0, .inr (7, [.ref a0, v1, v2, v3, v4, .ref t0, v6, v7, v8, v9, v10, v11, v12, v13, v14, v15, v16, v17, v18, v19, v20, v21, v22, v23, v24, v25, v26, v27])), (t0, .inl (tc, 8, .inl tg_20))] := hD
        subst hw
        have hP9 := hP.sub (ws' := [(h0, .inr (7, [.ref a0, v1, v2, v3, v4, .ref t0, v6, v7, v8, v9, v10, v11, v12, v13, v14, v15, v16, v17, v18, v19, v20, v21, v22, v23, v24, v25, v26, v27])), (t0, .inl (tc, 8, .inl tg_20)), (a0, .inl (ac, 38, .inl nf))]) [1, 2, 0] rfl
        have hD9 := hD.sub (ws' := [(h0, .inr (7, [.ref a0, v1, v2, v3, v4, .ref t0, v6, v7, v8, v9, v10, v11, v12, v13, v14, v15, v16, v17, v18, v19, v20, v21, v22, v23, v24, v25, v26, v27])), (t0, .inl (tc, 8, .inl tg_20)), (a0, .inl (ac, 38, .inl nf))]) [1, 2, 0] (by decide) rfl
        have hK9 := hK.sub (tys' := [(tc, .int), (ac, .int)]) [0, 1] rfl
        exact W.iret (v := ((-1000000005) : Int32)) hx hb hr (fun t ht hW => ⟨⟨((-1000000005) : Int32), (), rfl, trivial, tg_20, nf, hI, (by first | omega | decide | (simp only [fa_lt, fa_le, fa_eq, and_true, true_and, and_false, false_and, not_true_eq_false, not_false_eq_true, li_0, li_1, li_2, li_3, li_4, li_5, li_6, li_7, li_8, li_9, li_10, li_12, li_15, li_16, li_20, li_30, li_34, li_38, li_40, li_63, li_64, li_65, li_78, li_120, li_1000, li_4000, li_10000, li_11077, li_255, li_65535, li_m1, li_m2, li_m1000000001, li_m1000000002, li_m1000000003, li_m1000000004, li_m1000000005, li_m1000000006, li_m1000000007, or_true, true_or, or_false, false_or, implies_true, true_implies, false_implies] <;> omega)), by rw [ht]; exact hP9, va_K.moved hW.alike hK9, hD9⟩, hS.F ht⟩) hS.2.2 dX9_hold_36
    · skip
      have tc_7 : r_6.toInt = 0 := (fa_eq _ _).mp c_7
      refine lv_aload_n hx hb dX9_hold_15 rfl (lv_at hl 0 rfl) ?_
      refine lv_ldc hx hb hown (hts _ (List.mem_of_getElem? (i := 10) rfl)) dX9_hold_16 ?_
      have hPc := hP.sub (ws' := [(h0, .inr (7, [.ref a0, v1, v2, v3, v4, .ref t0, v6, v7, v8, v9, v10, v11, v12, v13, v14, v15, v16, v17, v18, v19, v20, v21, v22, v23, v24, v25, v26, v27])), (t0, .inl (tc, 8, .inl tf))]) [0, 1] rfl
      have hKc := hK.sub (tys' := [(tc, .int)]) [0] rfl
      have hDc := hD.sub (ws' := [(h0, .inr (7, [.ref a0, v1, v2, v3, v4, .ref t0, v6, v7, v8, v9, v10, v11, v12, v13, v14, v15, v16, v17, v18, v19, v20, v21, v22, v23, v24, v25, v26, v27])), (t0, .inl (tc, 8, .inl tf))]) [0, 1] (by decide) rfl
      have hFc := va_free (wc := [(h0, .inr (7, [.ref a0, v1, v2, v3, v4, .ref t0, v6, v7, v8, v9, v10, v11, v12, v13, v14, v15, v16, v17, v18, v19, v20, v21, v22, v23, v24, v25, v26, v27])), (t0, .inl (tc, 8, .inl tf))]) hD hS hA [0, 1] rfl
      refine va_calli (va_runV (As := [.int (-1000000001)]) (rest := []) ⟨hx, hb, hml, hown, hts⟩ (mf_beyond l dC dI ad h0 (.ref a0) v1 v2 v3 v4 t0 v6 v7 v8 v9 v10 v11 v12 v13 v14 v15 v16 v17 v18 v19 v20 v21 v22 v23 v24 v25 v26 v27 tc tf s.heap.size ) (cwV 1 hts g_m_hold_mf_beyond_84 rfl rfl rfl (by decide +kernel) ⟨(Nat.le_of_ble_eq_true rfl), (Nat.le_of_ble_eq_true rfl)⟩) ⟨preM_blind, va_recv hKc hPc (ci := 7) (q0 := 0) rfl rfl, fun U hU hW => ⟨rfl, preM_at hU hW hPc hKc hDc hev⟩⟩ rfl rfl hl.1 rfl (lv_room (Nat.le_of_ble_eq_true rfl)) dX9_hold_18 ⟨(Nat.le_of_ble_eq_true rfl), (Nat.le_of_ble_eq_true rfl)⟩) hS (fun q _ h => hFc q h) hFc (fun r_21 u t H1 locs ht hvm hw hB hz1 hk1 hS => ?_)
      obtain ⟨tg_22, hP1, hK1, hD1⟩ := hB
      rw [ht] at hP1
      have hK1 := va_K.moved hvm.symm hK1
      obtain ⟨hP, hD⟩ := va_join (wr := [(a0, .inl (ac, 38, .inl nf))]) (w1 := [(h0, .inr (7, [.ref a0, v1, v2, v3, v4, .ref t0, v6, v7, v8, v9, v10, v11, v12, v13, v14, v15, v16, v17, v18, v19, v20, v21, v22, v23, v24, v25, v26, v27])), (t0, .inl (tc, 8, .inl tg_22))]) hP hD [0, 1] [2] rfl rfl (by decide) (by decide) hk1 hFc hP1 hD1
      generalize H1 = H at hP hS ⊢
      have hP : va_P (dC, dI) vwCl [(a0, .inl (ac, 38, .inl nf)), (h0, .inr (7, [.ref a0, v1, v2, v3, v4, .ref t0, v6, v7, v8, v9, v10, v11, v12, v13, v14, v15, v16, v17, v18, v19, v20, v21, v22, v23, v24, v25, v26, v27])), (t0, .inl (tc, 8, .inl tg_22))] H := hP
      have hD : va_D A [(a0, .inl (ac, 38, .inl nf)), (h0, .inr (7, [.ref a0, v1, v2, v3, v4, .ref t0, v6, v7, v8, v9, v10, v11, v12, v13, v14, v15, v16, v17, v18, v19, v20, v21, v22, v23, v24, v25, v26, v27])), (t0, .inl (tc, 8, .inl tg_22))] := hD
      subst hw
      have hP9 := hP.sub (ws' := [(h0, .inr (7, [.ref a0, v1, v2, v3, v4, .ref t0, v6, v7, v8, v9, v10, v11, v12, v13, v14, v15, v16, v17, v18, v19, v20, v21, v22, v23, v24, v25, v26, v27])), (t0, .inl (tc, 8, .inl tg_22)), (a0, .inl (ac, 38, .inl nf))]) [1, 2, 0] rfl
      have hD9 := hD.sub (ws' := [(h0, .inr (7, [.ref a0, v1, v2, v3, v4, .ref t0, v6, v7, v8, v9, v10, v11, v12, v13, v14, v15, v16, v17, v18, v19, v20, v21, v22, v23, v24, v25, v26, v27])), (t0, .inl (tc, 8, .inl tg_22)), (a0, .inl (ac, 38, .inl nf))]) [1, 2, 0] (by decide) rfl
      have hK9 := hK.sub (tys' := [(tc, .int), (ac, .int)]) [0, 1] rfl
      exact W.iret (v := ((-1000000001) : Int32)) hx hb hr (fun t ht hW => ⟨⟨((-1000000001) : Int32), (), rfl, trivial, tg_22, nf, hI, (by first | omega | decide | (simp only [fa_lt, fa_le, fa_eq, and_true, true_and, and_false, false_and, not_true_eq_false, not_false_eq_true, li_0, li_1, li_2, li_3, li_4, li_5, li_6, li_7, li_8, li_9, li_10, li_12, li_15, li_16, li_20, li_30, li_34, li_38, li_40, li_63, li_64, li_65, li_78, li_120, li_1000, li_4000, li_10000, li_11077, li_255, li_65535, li_m1, li_m2, li_m1000000001, li_m1000000002, li_m1000000003, li_m1000000004, li_m1000000005, li_m1000000006, li_m1000000007, or_true, true_or, or_false, false_or, implies_true, true_implies, false_implies] <;> omega)), by rw [ht]; exact hP9, va_K.moved hW.alike hK9, hD9⟩, hS.F ht⟩) hS.2.2 dX9_hold_21

def w_m_move : List Cond := .code yX9_move cX9_move 4 (some .int) :: (([.methodLink RX9 93 yX9_isShape, .instanceMethod yX9_isShape, .selects RX9 yX9_isShape yX9_isShape, .initialized RX9, .code yX9_isShape cX9_isShape 2 (some .boolean), .fieldLink RX9 9 "LampShapesModel" "now" "[I", .methodLink RX9 75 yX9_within, .static yX9_within, .code yX9_within cX9_within 3 (some .boolean), .constant RX9 74 (-1000000001), .methodLink RX9 84 yX9_finding, .instanceMethod yX9_finding, .selects RX9 yX9_finding yX9_finding, .code yX9_finding cX9_finding 2 (some .int), .fieldLink RX9 23 "LampShapesModel" "found" "[I", .methodLink RX9 126 yX9_isPlacing, .static yX9_isPlacing, .code yX9_isPlacing cX9_isPlacing 1 (some .boolean), .methodLink RX9 96 yX9_holdOf, .instanceMethod yX9_holdOf, .selects RX9 yX9_holdOf yX9_holdOf, .code yX9_holdOf cX9_holdOf 4 (some .int), .methodLink RX9 102 yX9_putIn, .instanceMethod yX9_putIn, .selects RX9 yX9_putIn yX9_putIn, .code yX9_putIn cX9_putIn 4 (some .int), .constant RX9 133 (-1000000005)] : List Cond) ++ wsX90)
set_option maxRecDepth 20000 in
theorem g_m_move_m_isShape_93 : GoodIn w_m_move (wsV RX9 93 RX9 yX9_isShape w_m_isShape) := goodIn_r _ [1, 2, 3, 4, 5, 6, 7, 8, 4, 9, 28, 29, 30, 31, 32, 33, 34, 35, 36, 37, 38, 39, 40, 41, 42, 43, 44, 45, 46, 47, 48, 49, 50, 51, 52, 53, 54, 55] rfl (by decide +kernel)
set_option maxRecDepth 20000 in
theorem g_m_move_mf_beyond_84 : GoodIn w_m_move (wsV RX9 84 RX9 yX9_finding w_mf_beyond) := goodIn_r _ [11, 12, 13, 4, 14, 15, 10, 28, 29, 30, 31, 32, 33, 34, 35, 36, 37, 38, 39, 40, 41, 42, 43, 44, 45, 46, 47, 48, 49, 50, 51, 52, 53, 54, 55] rfl (by decide +kernel)
set_option maxRecDepth 20000 in
theorem g_m_move_m_isPlacing_126 : GoodIn w_m_move (va_wsS RX9 126 yX9_isPlacing w_m_isPlacing) := goodIn_r _ [16, 17, 4, 18, 7, 8, 4, 9] rfl (by decide +kernel)
set_option maxRecDepth 20000 in
theorem g_m_move_m_holdOf_96 : GoodIn w_m_move (wsV RX9 96 RX9 yX9_holdOf w_m_holdOf) := goodIn_r _ [19, 20, 21, 4, 22, 6, 28, 29, 30, 31, 32, 33, 34, 35, 36, 37, 38, 39, 40, 41, 42, 43, 44, 45, 46, 47, 48, 49, 50, 51, 52, 53, 54, 55] rfl (by decide +kernel)
set_option maxRecDepth 20000 in
theorem g_m_move_m_putIn_102 : GoodIn w_m_move (wsV RX9 102 RX9 yX9_putIn w_m_putIn) := goodIn_r _ [23, 24, 25, 4, 26, 6, 28, 29, 30, 31, 32, 33, 34, 35, 36, 37, 38, 39, 40, 41, 42, 43, 44, 45, 46, 47, 48, 49, 50, 51, 52, 53, 54, 55] rfl (by decide +kernel)
set_option maxRecDepth 20000 in
theorem g_m_move_mf_state_84 : GoodIn w_m_move (wsV RX9 84 RX9 yX9_finding w_mf_state) := goodIn_r _ [11, 12, 13, 4, 14, 15, 10, 28, 29, 30, 31, 32, 33, 34, 35, 36, 37, 38, 39, 40, 41, 42, 43, 44, 45, 46, 47, 48, 49, 50, 51, 52, 53, 54, 55] rfl (by decide +kernel)
set_option maxHeartbeats 4000000 in
set_option maxRecDepth 100000 in
theorem m_move (l : Launch) (dC : Nat → ClassId) (dI : Nat → Nat → Nat) (ad : Nat → Nat) (h0 : Nat) (a : Int32) (b : Int32) (a0 : Nat) (v1 : Value) (v2 : Value) (v3 : Value) (v4 : Value) (t0 : Nat) (v6 : Value) (v7 : Value) (v8 : Value) (v9 : Value) (v10 : Value) (v11 : Value) (v12 : Value) (v13 : Value) (v14 : Value) (v15 : Value) (v16 : Value) (v17 : Value) (v18 : Value) (v19 : Value) (v20 : Value) (v21 : Value) (v22 : Value) (v23 : Value) (v24 : Value) (v25 : Value) (v26 : Value) (v27 : Value) (tc : ClassId) (tf : Nat → Int32) (ac : ClassId) (nf : Nat → Int32) (sz : Nat) (hI : mI nf) : Met l yX9_move w_m_move ({ frames := 2, cells := 0, slots := 0, locals := 43 } : Room) (va_Pc [.ref h0, .int a, .int b] (preM dC dI ad [(tc, .int), (ac, .int)] [(h0, .inr (7, [.ref a0, v1, v2, v3, v4, .ref t0, v6, v7, v8, v9, v10, v11, v12, v13, v14, v15, v16, v17, v18, v19, v20, v21, v22, v23, v24, v25, v26, v27])), (t0, .inl (tc, 8, .inl tf)), (a0, .inl (ac, 38, .inl nf))] sz)) (va_Qi (fun (r : Int32) (_ : Unit) => True) (fun _ t => ∃ (tg : Nat → Int32), ∃ (ng : Nat → Int32), (mI ng) ∧ ((ng 2).toInt = (nf 2).toInt) ∧ va_P (dC, dI) vwCl [(h0, .inr (7, [.ref a0, v1, v2, v3, v4, .ref t0, v6, v7, v8, v9, v10, v11, v12, v13, v14, v15, v16, v17, v18, v19, v20, v21, v22, v23, v24, v25, v26, v27])), (t0, .inl (tc, 8, .inl tg)), (a0, .inl (ac, 38, .inl ng))] t.heap ∧ va_K (dC, dI) vwCl [(tc, .int), (ac, .int)] t ∧ va_D (va_A [(h0, .inr (7, [.ref a0, v1, v2, v3, v4, .ref t0, v6, v7, v8, v9, v10, v11, v12, v13, v14, v15, v16, v17, v18, v19, v20, v21, v22, v23, v24, v25, v26, v27])), (t0, .inl (tc, 8, .inl tf)), (a0, .inl (ac, 38, .inl nf))] sz) [(h0, .inr (7, [.ref a0, v1, v2, v3, v4, .ref t0, v6, v7, v8, v9, v10, v11, v12, v13, v14, v15, v16, v17, v18, v19, v20, v21, v22, v23, v24, v25, v26, v27])), (t0, .inl (tc, 8, .inl tg)), (a0, .inl (ac, 38, .inl ng))]) (va_A [(h0, .inr (7, [.ref a0, v1, v2, v3, v4, .ref t0, v6, v7, v8, v9, v10, v11, v12, v13, v14, v15, v16, v17, v18, v19, v20, v21, v22, v23, v24, v25, v26, v27])), (t0, .inl (tc, 8, .inl tf)), (a0, .inl (ac, 38, .inl nf))] sz)) 0 0 (va_A [(h0, .inr (7, [.ref a0, v1, v2, v3, v4, .ref t0, v6, v7, v8, v9, v10, v11, v12, v13, v14, v15, v16, v17, v18, v19, v20, v21, v22, v23, v24, v25, v26, v27])), (t0, .inl (tc, 8, .inl tf)), (a0, .inl (ac, 38, .inl nf))] sz) := by
  refine Met.ofW (cc := cX9_move) (maxL := 4) (ret := (some .int)) (by decide) rfl ?_
  intro p e s m args below meth c s₁ B hml hv
  obtain ⟨rfl, hsz, hP, hK, hD0, hev⟩ := hv
  have hx := B.exec
  have hb := B.bytes
  have hr := B.returns
  have hts := atoms_spec (ws := w_m_move) B.pre
  have hown : s.vm.findClass RX9 = some m.cls := findClass_of_methodNamed B.named
  have hlocks := B.notSynchronized
  have inX9 : ∀ w ∈ wsX90, w ∈ w_m_move := fun w h => List.mem_cons_of_mem _ (List.mem_append_right _ h)
  subst hsz
  have hD := hD0.self (sz := s.heap.size)
  generalize hAe : va_A [(h0, .inr (7, [.ref a0, v1, v2, v3, v4, .ref t0, v6, v7, v8, v9, v10, v11, v12, v13, v14, v15, v16, v17, v18, v19, v20, v21, v22, v23, v24, v25, v26, v27])), (t0, .inl (tc, 8, .inl tf)), (a0, .inl (ac, 38, .inl nf))] s.heap.size = A at hD ⊢
  have hA : ∀ q : Nat, s.heap.size ≤ q → A q := fun q h => by rw [← hAe]; exact Or.inr h
  have hS : va_S A s.heap s.heap [] := va_S.rf
  have hP : va_P (dC, dI) vwCl [(h0, .inr (7, [.ref a0, v1, v2, v3, v4, .ref t0, v6, v7, v8, v9, v10, v11, v12, v13, v14, v15, v16, v17, v18, v19, v20, v21, v22, v23, v24, v25, v26, v27])), (t0, .inl (tc, 8, .inl tf)), (a0, .inl (ac, 38, .inl nf))] s.heap := hP
  have hl := lv_entry ([.ref h0, .int a, .int b]) (n := 4) (Nat.le_of_ble_eq_true rfl)
  rw [lg_entry_eq]
  generalize (lg_sl ([.ref h0, .int a, .int b]) ++ List.replicate (4 - (lg_sl ([.ref h0, .int a, .int b])).length) Slot.unset).toArray = ls at hl ⊢
  have hl : lv_has ls 4 [(0, .ref h0), (1, .int a), (2, .int b)] := hl
  refine lv_aload_n hx hb dX9_move_0 rfl (lv_at hl 0 rfl) ?_
  refine lv_iload_n hx hb dX9_move_1 rfl (lv_at hl 1 rfl) ?_
  have hPc := hP.sub (ws' := [(h0, .inr (7, [.ref a0, v1, v2, v3, v4, .ref t0, v6, v7, v8, v9, v10, v11, v12, v13, v14, v15, v16, v17, v18, v19, v20, v21, v22, v23, v24, v25, v26, v27])), (a0, .inl (ac, 38, .inl nf))]) [0, 2] rfl
  have hKc := hK.sub (tys' := [(ac, .int)]) [1] rfl
  refine vp_callSi (W.runV (As := [.int a]) (rest := []) ⟨hx, hb, hml, hown, hts⟩ (m_isShape l dC dI ad h0 a a0 v1 v2 v3 v4 (.ref t0) v6 v7 v8 v9 v10 v11 v12 v13 v14 v15 v16 v17 v18 v19 v20 v21 v22 v23 v24 v25 v26 v27 ac nf hI) (cwV 1 hts g_m_move_m_isShape_93 rfl rfl rfl (by decide +kernel) ⟨(Nat.le_of_ble_eq_true rfl), (Nat.le_of_ble_eq_true rfl)⟩) ⟨preS_blind, va_recv hKc hPc (ci := 7) (q0 := 0) rfl rfl, fun U hU hW => ⟨rfl, preS_at hU hW hPc hKc hev⟩⟩ rfl rfl hl.1 rfl (lv_room (Nat.le_of_ble_eq_true rfl)) dX9_move_2 ⟨(Nat.le_of_ble_eq_true rfl), (Nat.le_of_ble_eq_true rfl)⟩) (fun r_1 hw => ?_)
  have hr_1 : (r_1.toInt = 1 ∧ 0 ≤ a.toInt ∧ a.toInt < (nf 0).toInt ∧ a.toInt ≤ 8) ∨ r_1.toInt = 0 := hw
  refine lv_if_eq (tgt := 15) hx hb dX9_move_5 (by decide) (fun c_2 => ?_) (fun c_2 => ?_)
  · skip
    have tc_2 : r_1.toInt = 0 := (fa_eq _ _).mp c_2
    refine lv_aload_n hx hb dX9_move_15 rfl (lv_at hl 0 rfl) ?_
    refine lv_ldc hx hb hown (hts _ (List.mem_of_getElem? (i := 10) rfl)) dX9_move_16 ?_
    have hPc := hP.sub (ws' := [(h0, .inr (7, [.ref a0, v1, v2, v3, v4, .ref t0, v6, v7, v8, v9, v10, v11, v12, v13, v14, v15, v16, v17, v18, v19, v20, v21, v22, v23, v24, v25, v26, v27])), (t0, .inl (tc, 8, .inl tf))]) [0, 1] rfl
    have hKc := hK.sub (tys' := [(tc, .int)]) [0] rfl
    have hDc := hD.sub (ws' := [(h0, .inr (7, [.ref a0, v1, v2, v3, v4, .ref t0, v6, v7, v8, v9, v10, v11, v12, v13, v14, v15, v16, v17, v18, v19, v20, v21, v22, v23, v24, v25, v26, v27])), (t0, .inl (tc, 8, .inl tf))]) [0, 1] (by decide) rfl
    have hFc := va_free (wc := [(h0, .inr (7, [.ref a0, v1, v2, v3, v4, .ref t0, v6, v7, v8, v9, v10, v11, v12, v13, v14, v15, v16, v17, v18, v19, v20, v21, v22, v23, v24, v25, v26, v27])), (t0, .inl (tc, 8, .inl tf))]) hD hS hA [0, 1] rfl
    refine va_calli (va_runV (As := [.int (-1000000001)]) (rest := []) ⟨hx, hb, hml, hown, hts⟩ (mf_beyond l dC dI ad h0 (.ref a0) v1 v2 v3 v4 t0 v6 v7 v8 v9 v10 v11 v12 v13 v14 v15 v16 v17 v18 v19 v20 v21 v22 v23 v24 v25 v26 v27 tc tf s.heap.size ) (cwV 1 hts g_m_move_mf_beyond_84 rfl rfl rfl (by decide +kernel) ⟨(Nat.le_of_ble_eq_true rfl), (Nat.le_of_ble_eq_true rfl)⟩) ⟨preM_blind, va_recv hKc hPc (ci := 7) (q0 := 0) rfl rfl, fun U hU hW => ⟨rfl, preM_at hU hW hPc hKc hDc hev⟩⟩ rfl rfl hl.1 rfl (lv_room (Nat.le_of_ble_eq_true rfl)) dX9_move_18 ⟨(Nat.le_of_ble_eq_true rfl), (Nat.le_of_ble_eq_true rfl)⟩) hS (fun q _ h => hFc q h) hFc (fun r_3 u t H1 locs ht hvm hw hB hz1 hk1 hS => ?_)
    obtain ⟨tg_4, hP1, hK1, hD1⟩ := hB
    rw [ht] at hP1
    have hK1 := va_K.moved hvm.symm hK1
    obtain ⟨hP, hD⟩ := va_join (wr := [(a0, .inl (ac, 38, .inl nf))]) (w1 := [(h0, .inr (7, [.ref a0, v1, v2, v3, v4, .ref t0, v6, v7, v8, v9, v10, v11, v12, v13, v14, v15, v16, v17, v18, v19, v20, v21, v22, v23, v24, v25, v26, v27])), (t0, .inl (tc, 8, .inl tg_4))]) hP hD [0, 1] [2] rfl rfl (by decide) (by decide) hk1 hFc hP1 hD1
    generalize H1 = H at hP hS ⊢
    have hP : va_P (dC, dI) vwCl [(a0, .inl (ac, 38, .inl nf)), (h0, .inr (7, [.ref a0, v1, v2, v3, v4, .ref t0, v6, v7, v8, v9, v10, v11, v12, v13, v14, v15, v16, v17, v18, v19, v20, v21, v22, v23, v24, v25, v26, v27])), (t0, .inl (tc, 8, .inl tg_4))] H := hP
    have hD : va_D A [(a0, .inl (ac, 38, .inl nf)), (h0, .inr (7, [.ref a0, v1, v2, v3, v4, .ref t0, v6, v7, v8, v9, v10, v11, v12, v13, v14, v15, v16, v17, v18, v19, v20, v21, v22, v23, v24, v25, v26, v27])), (t0, .inl (tc, 8, .inl tg_4))] := hD
    subst hw
    have hP9 := hP.sub (ws' := [(h0, .inr (7, [.ref a0, v1, v2, v3, v4, .ref t0, v6, v7, v8, v9, v10, v11, v12, v13, v14, v15, v16, v17, v18, v19, v20, v21, v22, v23, v24, v25, v26, v27])), (t0, .inl (tc, 8, .inl tg_4)), (a0, .inl (ac, 38, .inl nf))]) [1, 2, 0] rfl
    have hD9 := hD.sub (ws' := [(h0, .inr (7, [.ref a0, v1, v2, v3, v4, .ref t0, v6, v7, v8, v9, v10, v11, v12, v13, v14, v15, v16, v17, v18, v19, v20, v21, v22, v23, v24, v25, v26, v27])), (t0, .inl (tc, 8, .inl tg_4)), (a0, .inl (ac, 38, .inl nf))]) [1, 2, 0] (by decide) rfl
    have hK9 := hK.sub (tys' := [(tc, .int), (ac, .int)]) [0, 1] rfl
    exact W.iret (v := ((-1000000001) : Int32)) hx hb hr (fun t ht hW => ⟨⟨((-1000000001) : Int32), (), rfl, trivial, tg_4, nf, hI, (by first | omega | decide | (simp only [fa_lt, fa_le, fa_eq, and_true, true_and, and_false, false_and, not_true_eq_false, not_false_eq_true, li_0, li_1, li_2, li_3, li_4, li_5, li_6, li_7, li_8, li_9, li_10, li_12, li_15, li_16, li_20, li_30, li_34, li_38, li_40, li_63, li_64, li_65, li_78, li_120, li_1000, li_4000, li_10000, li_11077, li_255, li_65535, li_m1, li_m2, li_m1000000001, li_m1000000002, li_m1000000003, li_m1000000004, li_m1000000005, li_m1000000006, li_m1000000007, or_true, true_or, or_false, false_or, implies_true, true_implies, false_implies] <;> omega)), by rw [ht]; exact hP9, va_K.moved hW.alike hK9, hD9⟩, hS.F ht⟩) hS.2.2 dX9_move_21
  · skip
    have tc_2 : ¬ r_1.toInt = 0 := fun h => c_2 ((fa_eq _ _).mpr h)
    have i_5 : 0 ≤ a.toInt ∧ a.toInt < (nf 0).toInt ∧ a.toInt ≤ 8 := by omega
    refine lv_iload_n hx hb dX9_move_8 rfl (lv_at hl 2 rfl) ?_
    have hPc := hP.sub (ws' := []) [] rfl
    have hKc := hK.sub (tys' := []) [] rfl
    refine vp_callSi (W.runS (As := [.int b]) (rest := []) ⟨hx, hb, hml, hown, hts⟩ (m_isPlacing l dC dI ad b ) (va_cwS 1 hts g_m_move_m_isPlacing_126 rfl rfl rfl (by decide +kernel) ⟨(Nat.le_of_ble_eq_true rfl), (Nat.le_of_ble_eq_true rfl)⟩) ⟨preS_blind, fun U hU hW => ⟨rfl, preS_at hU hW hPc hKc hev⟩⟩ rfl rfl hl.1 rfl (lv_room (Nat.le_of_ble_eq_true rfl)) dX9_move_9 ⟨(Nat.le_of_ble_eq_true rfl), (Nat.le_of_ble_eq_true rfl)⟩) (fun r_6 hw => ?_)
    refine lv_if_ne (tgt := 22) hx hb dX9_move_12 (by decide) (fun c_7 => ?_) (fun c_7 => ?_)
    · skip
      have tc_7 : ¬ r_6.toInt = 0 := fun h => c_7 ((fa_eq _ _).mpr h)
      refine lv_aload_n hx hb dX9_move_22 rfl (lv_at hl 0 rfl) ?_
      refine lv_iload_n hx hb dX9_move_23 rfl (lv_at hl 1 rfl) ?_
      have hPc := hP.sub (ws' := [(h0, .inr (7, [.ref a0, v1, v2, v3, v4, .ref t0, v6, v7, v8, v9, v10, v11, v12, v13, v14, v15, v16, v17, v18, v19, v20, v21, v22, v23, v24, v25, v26, v27])), (a0, .inl (ac, 38, .inl nf))]) [0, 2] rfl
      have hKc := hK.sub (tys' := [(ac, .int)]) [1] rfl
      refine vp_callSi (W.runV (As := [.int a]) (rest := []) ⟨hx, hb, hml, hown, hts⟩ (m_holdOf l dC dI ad h0 a a0 v1 v2 v3 v4 (.ref t0) v6 v7 v8 v9 v10 v11 v12 v13 v14 v15 v16 v17 v18 v19 v20 v21 v22 v23 v24 v25 v26 v27 ac nf hI) (cwV 1 hts g_m_move_m_holdOf_96 rfl rfl rfl (by decide +kernel) ⟨(Nat.le_of_ble_eq_true rfl), (Nat.le_of_ble_eq_true rfl)⟩) ⟨preS_blind, va_recv hKc hPc (ci := 7) (q0 := 0) rfl rfl, fun U hU hW => ⟨rfl, preS_at hU hW hPc hKc hev⟩⟩ rfl rfl hl.1 rfl (lv_room (Nat.le_of_ble_eq_true rfl)) dX9_move_24 ⟨(Nat.le_of_ble_eq_true rfl), (Nat.le_of_ble_eq_true rfl)⟩) (fun r_8 hw => ?_)
      have hr_8 : (-1) ≤ r_8.toInt ∧ r_8.toInt ≤ 3 ∧ ((0 ≤ r_8.toInt ∧ hF nf a.toInt) ∨ (r_8.toInt = (-1) ∧ ¬ hF nf a.toInt)) := hw
      refine lv_istore_n (lv' := [(3, .int r_8), (0, .ref h0), (1, .int a), (2, .int b)]) hx hb dX9_move_27 rfl hl (by decide) rfl (fun ls hl => ?_)
      refine lv_iload_n hx hb dX9_move_28 rfl (lv_at hl 0 rfl) ?_
      refine lv_if_ge (tgt := 41) hx hb dX9_move_29 (by decide) (fun c_9 => ?_) (fun c_9 => ?_)
      · skip
        have tc_9 : 0 ≤ r_8.toInt := (fa_le _ _).mp c_9
        refine lv_aload_n hx hb dX9_move_41 rfl (lv_at hl 1 rfl) ?_
        refine lv_bipush (v := 34) hx hb dX9_move_42 (by decide) ?_
        refine lv_iload_n hx hb dX9_move_44 rfl (lv_at hl 0 rfl) ?_
        refine lv_iadd hx hb dX9_move_45 ?_
        refine lv_topi (fun n_10 en_10 => ?_)
        have tn_10 : n_10.toInt = 34 + r_8.toInt := pp_add en_10 rfl rfl (by omega) (by omega)
        clear en_10
        refine lv_iload_n hx hb dX9_move_46 rfl (lv_at hl 3 rfl) ?_
        have hPc := hP.sub (ws' := [(h0, .inr (7, [.ref a0, v1, v2, v3, v4, .ref t0, v6, v7, v8, v9, v10, v11, v12, v13, v14, v15, v16, v17, v18, v19, v20, v21, v22, v23, v24, v25, v26, v27])), (a0, .inl (ac, 38, .inl nf))]) [0, 2] rfl
        have hKc := hK.sub (tys' := [(ac, .int)]) [1] rfl
        have hDc := hD.sub (ws' := [(h0, .inr (7, [.ref a0, v1, v2, v3, v4, .ref t0, v6, v7, v8, v9, v10, v11, v12, v13, v14, v15, v16, v17, v18, v19, v20, v21, v22, v23, v24, v25, v26, v27])), (a0, .inl (ac, 38, .inl nf))]) [0, 2] (by decide) rfl
        have hFc := va_free (wc := [(h0, .inr (7, [.ref a0, v1, v2, v3, v4, .ref t0, v6, v7, v8, v9, v10, v11, v12, v13, v14, v15, v16, v17, v18, v19, v20, v21, v22, v23, v24, v25, v26, v27])), (a0, .inl (ac, 38, .inl nf))]) hD hS hA [0, 2] rfl
        refine va_calli (va_runV (As := [.int n_10, .int b]) (rest := []) ⟨hx, hb, hml, hown, hts⟩ (m_putIn l dC dI ad h0 n_10 b a0 v1 v2 v3 v4 (.ref t0) v6 v7 v8 v9 v10 v11 v12 v13 v14 v15 v16 v17 v18 v19 v20 v21 v22 v23 v24 v25 v26 v27 ac nf s.heap.size hI (by first | omega | decide | (simp only [fa_lt, fa_le, fa_eq, and_true, true_and, and_false, false_and, not_true_eq_false, not_false_eq_true, li_0, li_1, li_2, li_3, li_4, li_5, li_6, li_7, li_8, li_9, li_10, li_12, li_15, li_16, li_20, li_30, li_34, li_38, li_40, li_63, li_64, li_65, li_78, li_120, li_1000, li_4000, li_10000, li_11077, li_255, li_65535, li_m1, li_m2, li_m1000000001, li_m1000000002, li_m1000000003, li_m1000000004, li_m1000000005, li_m1000000006, li_m1000000007, or_true, true_or, or_false, false_or, implies_true, true_implies, false_implies] <;> omega))) (cwV 2 hts g_m_move_m_putIn_102 rfl rfl rfl (by decide +kernel) ⟨(Nat.le_of_ble_eq_true rfl), (Nat.le_of_ble_eq_true rfl)⟩) ⟨preM_blind, va_recv hKc hPc (ci := 7) (q0 := 0) rfl rfl, fun U hU hW => ⟨rfl, preM_at hU hW hPc hKc hDc hev⟩⟩ rfl rfl hl.1 rfl (lv_room (Nat.le_of_ble_eq_true rfl)) dX9_move_47 ⟨(Nat.le_of_ble_eq_true rfl), (Nat.le_of_ble_eq_true rfl)⟩) hS (fun q _ h => hFc q h) hFc (fun r_11 u t H1 locs ht hvm hw hB hz1 hk1 hS => ?_)
        obtain ⟨ng_12, hq_13, hq_14, hP1, hK1, hD1⟩ := hB
        rw [ht] at hP1
        have hK1 := va_K.moved hvm.symm hK1
        obtain ⟨hP, hD⟩ := va_join (wr := [(t0, .inl (tc, 8, .inl tf))]) (w1 := [(h0, .inr (7, [.ref a0, v1, v2, v3, v4, .ref t0, v6, v7, v8, v9, v10, v11, v12, v13, v14, v15, v16, v17, v18, v19, v20, v21, v22, v23, v24, v25, v26, v27])), (a0, .inl (ac, 38, .inl ng_12))]) hP hD [0, 2] [1] rfl rfl (by decide) (by decide) hk1 hFc hP1 hD1
        generalize H1 = H at hP hS ⊢
        have hP : va_P (dC, dI) vwCl [(t0, .inl (tc, 8, .inl tf)), (h0, .inr (7, [.ref a0, v1, v2, v3, v4, .ref t0, v6, v7, v8, v9, v10, v11, v12, v13, v14, v15, v16, v17, v18, v19, v20, v21, v22, v23, v24, v25, v26, v27])), (a0, .inl (ac, 38, .inl ng_12))] H := hP
        have hD : va_D A [(t0, .inl (tc, 8, .inl tf)), (h0, .inr (7, [.ref a0, v1, v2, v3, v4, .ref t0, v6, v7, v8, v9, v10, v11, v12, v13, v14, v15, v16, v17, v18, v19, v20, v21, v22, v23, v24, v25, v26, v27])), (a0, .inl (ac, 38, .inl ng_12))] := hD
        have hP9 := hP.sub (ws' := [(h0, .inr (7, [.ref a0, v1, v2, v3, v4, .ref t0, v6, v7, v8, v9, v10, v11, v12, v13, v14, v15, v16, v17, v18, v19, v20, v21, v22, v23, v24, v25, v26, v27])), (t0, .inl (tc, 8, .inl tf)), (a0, .inl (ac, 38, .inl ng_12))]) [1, 0, 2] rfl
        have hD9 := hD.sub (ws' := [(h0, .inr (7, [.ref a0, v1, v2, v3, v4, .ref t0, v6, v7, v8, v9, v10, v11, v12, v13, v14, v15, v16, v17, v18, v19, v20, v21, v22, v23, v24, v25, v26, v27])), (t0, .inl (tc, 8, .inl tf)), (a0, .inl (ac, 38, .inl ng_12))]) [1, 0, 2] (by decide) rfl
        have hK9 := hK.sub (tys' := [(tc, .int), (ac, .int)]) [0, 1] rfl
        exact W.iret (v := r_11) hx hb hr (fun t ht hW => ⟨⟨r_11, (), rfl, trivial, tf, ng_12, hq_13, (by first | omega | decide | (simp only [fa_lt, fa_le, fa_eq, and_true, true_and, and_false, false_and, not_true_eq_false, not_false_eq_true, li_0, li_1, li_2, li_3, li_4, li_5, li_6, li_7, li_8, li_9, li_10, li_12, li_15, li_16, li_20, li_30, li_34, li_38, li_40, li_63, li_64, li_65, li_78, li_120, li_1000, li_4000, li_10000, li_11077, li_255, li_65535, li_m1, li_m2, li_m1000000001, li_m1000000002, li_m1000000003, li_m1000000004, li_m1000000005, li_m1000000006, li_m1000000007, or_true, true_or, or_false, false_or, implies_true, true_implies, false_implies] <;> omega)), by rw [ht]; exact hP9, va_K.moved hW.alike hK9, hD9⟩, hS.F ht⟩) hS.2.2 dX9_move_50
      · skip
        have tc_9 : ¬ 0 ≤ r_8.toInt := fun h => c_9 ((fa_le _ _).mpr h)
        refine lv_aload_n hx hb dX9_move_32 rfl (lv_at hl 1 rfl) ?_
        refine lv_ldc hx hb hown (hts _ (List.mem_of_getElem? (i := 27) rfl)) dX9_move_33 ?_
        have hPc := hP.sub (ws' := [(h0, .inr (7, [.ref a0, v1, v2, v3, v4, .ref t0, v6, v7, v8, v9, v10, v11, v12, v13, v14, v15, v16, v17, v18, v19, v20, v21, v22, v23, v24, v25, v26, v27])), (t0, .inl (tc, 8, .inl tf))]) [0, 1] rfl
        have hKc := hK.sub (tys' := [(tc, .int)]) [0] rfl
        have hDc := hD.sub (ws' := [(h0, .inr (7, [.ref a0, v1, v2, v3, v4, .ref t0, v6, v7, v8, v9, v10, v11, v12, v13, v14, v15, v16, v17, v18, v19, v20, v21, v22, v23, v24, v25, v26, v27])), (t0, .inl (tc, 8, .inl tf))]) [0, 1] (by decide) rfl
        have hFc := va_free (wc := [(h0, .inr (7, [.ref a0, v1, v2, v3, v4, .ref t0, v6, v7, v8, v9, v10, v11, v12, v13, v14, v15, v16, v17, v18, v19, v20, v21, v22, v23, v24, v25, v26, v27])), (t0, .inl (tc, 8, .inl tf))]) hD hS hA [0, 1] rfl
        refine va_calli (va_runV (As := [.int (-1000000005)]) (rest := []) ⟨hx, hb, hml, hown, hts⟩ (mf_state l dC dI ad h0 (.ref a0) v1 v2 v3 v4 t0 v6 v7 v8 v9 v10 v11 v12 v13 v14 v15 v16 v17 v18 v19 v20 v21 v22 v23 v24 v25 v26 v27 tc tf s.heap.size ) (cwV 1 hts g_m_move_mf_state_84 rfl rfl rfl (by decide +kernel) ⟨(Nat.le_of_ble_eq_true rfl), (Nat.le_of_ble_eq_true rfl)⟩) ⟨preM_blind, va_recv hKc hPc (ci := 7) (q0 := 0) rfl rfl, fun U hU hW => ⟨rfl, preM_at hU hW hPc hKc hDc hev⟩⟩ rfl rfl hl.1 rfl (lv_room (Nat.le_of_ble_eq_true rfl)) dX9_move_35 ⟨(Nat.le_of_ble_eq_true rfl), (Nat.le_of_ble_eq_true rfl)⟩) hS (fun q _ h => hFc q h) hFc (fun r_15 u t H1 locs ht hvm hw hB hz1 hk1 hS => ?_)
        obtain ⟨tg_16, hP1, hK1, hD1⟩ := hB
        rw [ht] at hP1
        have hK1 := va_K.moved hvm.symm hK1
        obtain ⟨hP, hD⟩ := va_join (wr := [(a0, .inl (ac, 38, .inl nf))]) (w1 := [(h0, .inr (7, [.ref a0, v1, v2, v3, v4, .ref t0, v6, v7, v8, v9, v10, v11, v12, v13, v14, v15, v16, v17, v18, v19, v20, v21, v22, v23, v24, v25, v26, v27])), (t0, .inl (tc, 8, .inl tg_16))]) hP hD [0, 1] [2] rfl rfl (by decide) (by decide) hk1 hFc hP1 hD1
        generalize H1 = H at hP hS ⊢
        have hP : va_P (dC, dI) vwCl [(a0, .inl (ac, 38, .inl nf)), (h0, .inr (7, [.ref a0, v1, v2, v3, v4, .ref t0, v6, v7, v8, v9, v10, v11, v12, v13, v14, v15, v16, v17, v18, v19, v20, v21, v22, v23, v24, v25, v26, v27])), (t0, .inl (tc, 8, .inl tg_16))] H := hP
        have hD : va_D A [(a0, .inl (ac, 38, .inl nf)), (h0, .inr (7, [.ref a0, v1, v2, v3, v4, .ref t0, v6, v7, v8, v9, v10, v11, v12, v13, v14, v15, v16, v17, v18, v19, v20, v21, v22, v23, v24, v25, v26, v27])), (t0, .inl (tc, 8, .inl tg_16))] := hD
        subst hw
        refine lv_goto (tgt := 50) hx hb dX9_move_38 (by decide) ?_
        have hP9 := hP.sub (ws' := [(h0, .inr (7, [.ref a0, v1, v2, v3, v4, .ref t0, v6, v7, v8, v9, v10, v11, v12, v13, v14, v15, v16, v17, v18, v19, v20, v21, v22, v23, v24, v25, v26, v27])), (t0, .inl (tc, 8, .inl tg_16)), (a0, .inl (ac, 38, .inl nf))]) [1, 2, 0] rfl
        have hD9 := hD.sub (ws' := [(h0, .inr (7, [.ref a0, v1, v2, v3, v4, .ref t0, v6, v7, v8, v9, v10, v11, v12, v13, v14, v15, v16, v17, v18, v19, v20, v21, v22, v23, v24, v25, v26, v27])), (t0, .inl (tc, 8, .inl tg_16)), (a0, .inl (ac, 38, .inl nf))]) [1, 2, 0] (by decide) rfl
        have hK9 := hK.sub (tys' := [(tc, .int), (ac, .int)]) [0, 1] rfl
        exact W.iret (v := ((-1000000005) : Int32)) hx hb hr (fun t ht hW => ⟨⟨((-1000000005) : Int32), (), rfl, trivial, tg_16, nf, hI, (by first | omega | decide | (simp only [fa_lt, fa_le, fa_eq, and_true, true_and, and_false, false_and, not_true_eq_false, not_false_eq_true, li_0, li_1, li_2, li_3, li_4, li_5, li_6, li_7, li_8, li_9, li_10, li_12, li_15, li_16, li_20, li_30, li_34, li_38, li_40, li_63, li_64, li_65, li_78, li_120, li_1000, li_4000, li_10000, li_11077, li_255, li_65535, li_m1, li_m2, li_m1000000001, li_m1000000002, li_m1000000003, li_m1000000004, li_m1000000005, li_m1000000006, li_m1000000007, or_true, true_or, or_false, false_or, implies_true, true_implies, false_implies] <;> omega)), by rw [ht]; exact hP9, va_K.moved hW.alike hK9, hD9⟩, hS.F ht⟩) hS.2.2 dX9_move_50
    · skip
      have tc_7 : r_6.toInt = 0 := (fa_eq _ _).mp c_7
      refine lv_aload_n hx hb dX9_move_15 rfl (lv_at hl 0 rfl) ?_
      refine lv_ldc hx hb hown (hts _ (List.mem_of_getElem? (i := 10) rfl)) dX9_move_16 ?_
      have hPc := hP.sub (ws' := [(h0, .inr (7, [.ref a0, v1, v2, v3, v4, .ref t0, v6, v7, v8, v9, v10, v11, v12, v13, v14, v15, v16, v17, v18, v19, v20, v21, v22, v23, v24, v25, v26, v27])), (t0, .inl (tc, 8, .inl tf))]) [0, 1] rfl
      have hKc := hK.sub (tys' := [(tc, .int)]) [0] rfl
      have hDc := hD.sub (ws' := [(h0, .inr (7, [.ref a0, v1, v2, v3, v4, .ref t0, v6, v7, v8, v9, v10, v11, v12, v13, v14, v15, v16, v17, v18, v19, v20, v21, v22, v23, v24, v25, v26, v27])), (t0, .inl (tc, 8, .inl tf))]) [0, 1] (by decide) rfl
      have hFc := va_free (wc := [(h0, .inr (7, [.ref a0, v1, v2, v3, v4, .ref t0, v6, v7, v8, v9, v10, v11, v12, v13, v14, v15, v16, v17, v18, v19, v20, v21, v22, v23, v24, v25, v26, v27])), (t0, .inl (tc, 8, .inl tf))]) hD hS hA [0, 1] rfl
      refine va_calli (va_runV (As := [.int (-1000000001)]) (rest := []) ⟨hx, hb, hml, hown, hts⟩ (mf_beyond l dC dI ad h0 (.ref a0) v1 v2 v3 v4 t0 v6 v7 v8 v9 v10 v11 v12 v13 v14 v15 v16 v17 v18 v19 v20 v21 v22 v23 v24 v25 v26 v27 tc tf s.heap.size ) (cwV 1 hts g_m_move_mf_beyond_84 rfl rfl rfl (by decide +kernel) ⟨(Nat.le_of_ble_eq_true rfl), (Nat.le_of_ble_eq_true rfl)⟩) ⟨preM_blind, va_recv hKc hPc (ci := 7) (q0 := 0) rfl rfl, fun U hU hW => ⟨rfl, preM_at hU hW hPc hKc hDc hev⟩⟩ rfl rfl hl.1 rfl (lv_room (Nat.le_of_ble_eq_true rfl)) dX9_move_18 ⟨(Nat.le_of_ble_eq_true rfl), (Nat.le_of_ble_eq_true rfl)⟩) hS (fun q _ h => hFc q h) hFc (fun r_17 u t H1 locs ht hvm hw hB hz1 hk1 hS => ?_)
      obtain ⟨tg_18, hP1, hK1, hD1⟩ := hB
      rw [ht] at hP1
      have hK1 := va_K.moved hvm.symm hK1
      obtain ⟨hP, hD⟩ := va_join (wr := [(a0, .inl (ac, 38, .inl nf))]) (w1 := [(h0, .inr (7, [.ref a0, v1, v2, v3, v4, .ref t0, v6, v7, v8, v9, v10, v11, v12, v13, v14, v15, v16, v17, v18, v19, v20, v21, v22, v23, v24, v25, v26, v27])), (t0, .inl (tc, 8, .inl tg_18))]) hP hD [0, 1] [2] rfl rfl (by decide) (by decide) hk1 hFc hP1 hD1
      generalize H1 = H at hP hS ⊢
      have hP : va_P (dC, dI) vwCl [(a0, .inl (ac, 38, .inl nf)), (h0, .inr (7, [.ref a0, v1, v2, v3, v4, .ref t0, v6, v7, v8, v9, v10, v11, v12, v13, v14, v15, v16, v17, v18, v19, v20, v21, v22, v23, v24, v25, v26, v27])), (t0, .inl (tc, 8, .inl tg_18))] H := hP
      have hD : va_D A [(a0, .inl (ac, 38, .inl nf)), (h0, .inr (7, [.ref a0, v1, v2, v3, v4, .ref t0, v6, v7, v8, v9, v10, v11, v12, v13, v14, v15, v16, v17, v18, v19, v20, v21, v22, v23, v24, v25, v26, v27])), (t0, .inl (tc, 8, .inl tg_18))] := hD
      subst hw
      have hP9 := hP.sub (ws' := [(h0, .inr (7, [.ref a0, v1, v2, v3, v4, .ref t0, v6, v7, v8, v9, v10, v11, v12, v13, v14, v15, v16, v17, v18, v19, v20, v21, v22, v23, v24, v25, v26, v27])), (t0, .inl (tc, 8, .inl tg_18)), (a0, .inl (ac, 38, .inl nf))]) [1, 2, 0] rfl
      have hD9 := hD.sub (ws' := [(h0, .inr (7, [.ref a0, v1, v2, v3, v4, .ref t0, v6, v7, v8, v9, v10, v11, v12, v13, v14, v15, v16, v17, v18, v19, v20, v21, v22, v23, v24, v25, v26, v27])), (t0, .inl (tc, 8, .inl tg_18)), (a0, .inl (ac, 38, .inl nf))]) [1, 2, 0] (by decide) rfl
      have hK9 := hK.sub (tys' := [(tc, .int), (ac, .int)]) [0, 1] rfl
      exact W.iret (v := ((-1000000001) : Int32)) hx hb hr (fun t ht hW => ⟨⟨((-1000000001) : Int32), (), rfl, trivial, tg_18, nf, hI, (by first | omega | decide | (simp only [fa_lt, fa_le, fa_eq, and_true, true_and, and_false, false_and, not_true_eq_false, not_false_eq_true, li_0, li_1, li_2, li_3, li_4, li_5, li_6, li_7, li_8, li_9, li_10, li_12, li_15, li_16, li_20, li_30, li_34, li_38, li_40, li_63, li_64, li_65, li_78, li_120, li_1000, li_4000, li_10000, li_11077, li_255, li_65535, li_m1, li_m2, li_m1000000001, li_m1000000002, li_m1000000003, li_m1000000004, li_m1000000005, li_m1000000006, li_m1000000007, or_true, true_or, or_false, false_or, implies_true, true_implies, false_implies] <;> omega)), by rw [ht]; exact hP9, va_K.moved hW.alike hK9, hD9⟩, hS.F ht⟩) hS.2.2 dX9_move_21

def w_m_drop : List Cond := .code yX9_drop cX9_drop 3 (some .int) :: (([.methodLink RX9 93 yX9_isShape, .instanceMethod yX9_isShape, .selects RX9 yX9_isShape yX9_isShape, .initialized RX9, .code yX9_isShape cX9_isShape 2 (some .boolean), .fieldLink RX9 9 "LampShapesModel" "now" "[I", .methodLink RX9 75 yX9_within, .static yX9_within, .code yX9_within cX9_within 3 (some .boolean), .methodLink RX9 96 yX9_holdOf, .instanceMethod yX9_holdOf, .selects RX9 yX9_holdOf yX9_holdOf, .code yX9_holdOf cX9_holdOf 4 (some .int), .constant RX9 133 (-1000000005), .methodLink RX9 84 yX9_finding, .instanceMethod yX9_finding, .selects RX9 yX9_finding yX9_finding, .code yX9_finding cX9_finding 2 (some .int), .fieldLink RX9 23 "LampShapesModel" "found" "[I", .constant RX9 74 (-1000000001)] : List Cond) ++ wsX90)
set_option maxRecDepth 20000 in
theorem g_m_drop_m_isShape_93 : GoodIn w_m_drop (wsV RX9 93 RX9 yX9_isShape w_m_isShape) := goodIn_r _ [1, 2, 3, 4, 5, 6, 7, 8, 4, 9, 21, 22, 23, 24, 25, 26, 27, 28, 29, 30, 31, 32, 33, 34, 35, 36, 37, 38, 39, 40, 41, 42, 43, 44, 45, 46, 47, 48] rfl (by decide +kernel)
set_option maxRecDepth 20000 in
theorem g_m_drop_m_holdOf_96 : GoodIn w_m_drop (wsV RX9 96 RX9 yX9_holdOf w_m_holdOf) := goodIn_r _ [10, 11, 12, 4, 13, 6, 21, 22, 23, 24, 25, 26, 27, 28, 29, 30, 31, 32, 33, 34, 35, 36, 37, 38, 39, 40, 41, 42, 43, 44, 45, 46, 47, 48] rfl (by decide +kernel)
set_option maxRecDepth 20000 in
theorem g_m_drop_mf_state_84 : GoodIn w_m_drop (wsV RX9 84 RX9 yX9_finding w_mf_state) := goodIn_r _ [15, 16, 17, 4, 18, 19, 20, 21, 22, 23, 24, 25, 26, 27, 28, 29, 30, 31, 32, 33, 34, 35, 36, 37, 38, 39, 40, 41, 42, 43, 44, 45, 46, 47, 48] rfl (by decide +kernel)
set_option maxRecDepth 20000 in
theorem g_m_drop_mf_beyond_84 : GoodIn w_m_drop (wsV RX9 84 RX9 yX9_finding w_mf_beyond) := goodIn_r _ [15, 16, 17, 4, 18, 19, 20, 21, 22, 23, 24, 25, 26, 27, 28, 29, 30, 31, 32, 33, 34, 35, 36, 37, 38, 39, 40, 41, 42, 43, 44, 45, 46, 47, 48] rfl (by decide +kernel)
set_option maxHeartbeats 4000000 in
set_option maxRecDepth 100000 in
theorem m_drop (l : Launch) (dC : Nat → ClassId) (dI : Nat → Nat → Nat) (ad : Nat → Nat) (h0 : Nat) (a : Int32) (a0 : Nat) (v1 : Value) (v2 : Value) (v3 : Value) (v4 : Value) (t0 : Nat) (v6 : Value) (v7 : Value) (v8 : Value) (v9 : Value) (v10 : Value) (v11 : Value) (v12 : Value) (v13 : Value) (v14 : Value) (v15 : Value) (v16 : Value) (v17 : Value) (v18 : Value) (v19 : Value) (v20 : Value) (v21 : Value) (v22 : Value) (v23 : Value) (v24 : Value) (v25 : Value) (v26 : Value) (v27 : Value) (tc : ClassId) (tf : Nat → Int32) (ac : ClassId) (nf : Nat → Int32) (sz : Nat) (hI : mI nf) : Met l yX9_drop w_m_drop ({ frames := 2, cells := 0, slots := 0, locals := 43 } : Room) (va_Pc [.ref h0, .int a] (preM dC dI ad [(tc, .int), (ac, .int)] [(h0, .inr (7, [.ref a0, v1, v2, v3, v4, .ref t0, v6, v7, v8, v9, v10, v11, v12, v13, v14, v15, v16, v17, v18, v19, v20, v21, v22, v23, v24, v25, v26, v27])), (t0, .inl (tc, 8, .inl tf)), (a0, .inl (ac, 38, .inl nf))] sz)) (va_Qi (fun (r : Int32) (_ : Unit) => True) (fun _ t => ∃ (tg : Nat → Int32), ∃ (ng : Nat → Int32), (mI ng) ∧ ((ng 2).toInt = (nf 2).toInt) ∧ va_P (dC, dI) vwCl [(h0, .inr (7, [.ref a0, v1, v2, v3, v4, .ref t0, v6, v7, v8, v9, v10, v11, v12, v13, v14, v15, v16, v17, v18, v19, v20, v21, v22, v23, v24, v25, v26, v27])), (t0, .inl (tc, 8, .inl tg)), (a0, .inl (ac, 38, .inl ng))] t.heap ∧ va_K (dC, dI) vwCl [(tc, .int), (ac, .int)] t ∧ va_D (va_A [(h0, .inr (7, [.ref a0, v1, v2, v3, v4, .ref t0, v6, v7, v8, v9, v10, v11, v12, v13, v14, v15, v16, v17, v18, v19, v20, v21, v22, v23, v24, v25, v26, v27])), (t0, .inl (tc, 8, .inl tf)), (a0, .inl (ac, 38, .inl nf))] sz) [(h0, .inr (7, [.ref a0, v1, v2, v3, v4, .ref t0, v6, v7, v8, v9, v10, v11, v12, v13, v14, v15, v16, v17, v18, v19, v20, v21, v22, v23, v24, v25, v26, v27])), (t0, .inl (tc, 8, .inl tg)), (a0, .inl (ac, 38, .inl ng))]) (va_A [(h0, .inr (7, [.ref a0, v1, v2, v3, v4, .ref t0, v6, v7, v8, v9, v10, v11, v12, v13, v14, v15, v16, v17, v18, v19, v20, v21, v22, v23, v24, v25, v26, v27])), (t0, .inl (tc, 8, .inl tf)), (a0, .inl (ac, 38, .inl nf))] sz)) 0 0 (va_A [(h0, .inr (7, [.ref a0, v1, v2, v3, v4, .ref t0, v6, v7, v8, v9, v10, v11, v12, v13, v14, v15, v16, v17, v18, v19, v20, v21, v22, v23, v24, v25, v26, v27])), (t0, .inl (tc, 8, .inl tf)), (a0, .inl (ac, 38, .inl nf))] sz) := by
  refine Met.ofW (cc := cX9_drop) (maxL := 3) (ret := (some .int)) (by decide) rfl ?_
  intro p e s m args below meth c s₁ B hml hv
  obtain ⟨rfl, hsz, hP, hK, hD0, hev⟩ := hv
  have hx := B.exec
  have hb := B.bytes
  have hr := B.returns
  have hts := atoms_spec (ws := w_m_drop) B.pre
  have hown : s.vm.findClass RX9 = some m.cls := findClass_of_methodNamed B.named
  have hlocks := B.notSynchronized
  have inX9 : ∀ w ∈ wsX90, w ∈ w_m_drop := fun w h => List.mem_cons_of_mem _ (List.mem_append_right _ h)
  subst hsz
  have hD := hD0.self (sz := s.heap.size)
  generalize hAe : va_A [(h0, .inr (7, [.ref a0, v1, v2, v3, v4, .ref t0, v6, v7, v8, v9, v10, v11, v12, v13, v14, v15, v16, v17, v18, v19, v20, v21, v22, v23, v24, v25, v26, v27])), (t0, .inl (tc, 8, .inl tf)), (a0, .inl (ac, 38, .inl nf))] s.heap.size = A at hD ⊢
  have hA : ∀ q : Nat, s.heap.size ≤ q → A q := fun q h => by rw [← hAe]; exact Or.inr h
  have hS : va_S A s.heap s.heap [] := va_S.rf
  have hP : va_P (dC, dI) vwCl [(h0, .inr (7, [.ref a0, v1, v2, v3, v4, .ref t0, v6, v7, v8, v9, v10, v11, v12, v13, v14, v15, v16, v17, v18, v19, v20, v21, v22, v23, v24, v25, v26, v27])), (t0, .inl (tc, 8, .inl tf)), (a0, .inl (ac, 38, .inl nf))] s.heap := hP
  have hl := lv_entry ([.ref h0, .int a]) (n := 3) (Nat.le_of_ble_eq_true rfl)
  rw [lg_entry_eq]
  generalize (lg_sl ([.ref h0, .int a]) ++ List.replicate (3 - (lg_sl ([.ref h0, .int a])).length) Slot.unset).toArray = ls at hl ⊢
  have hl : lv_has ls 3 [(0, .ref h0), (1, .int a)] := hl
  refine lv_aload_n hx hb dX9_drop_0 rfl (lv_at hl 0 rfl) ?_
  refine lv_iload_n hx hb dX9_drop_1 rfl (lv_at hl 1 rfl) ?_
  have hPc := hP.sub (ws' := [(h0, .inr (7, [.ref a0, v1, v2, v3, v4, .ref t0, v6, v7, v8, v9, v10, v11, v12, v13, v14, v15, v16, v17, v18, v19, v20, v21, v22, v23, v24, v25, v26, v27])), (a0, .inl (ac, 38, .inl nf))]) [0, 2] rfl
  have hKc := hK.sub (tys' := [(ac, .int)]) [1] rfl
  refine vp_callSi (W.runV (As := [.int a]) (rest := []) ⟨hx, hb, hml, hown, hts⟩ (m_isShape l dC dI ad h0 a a0 v1 v2 v3 v4 (.ref t0) v6 v7 v8 v9 v10 v11 v12 v13 v14 v15 v16 v17 v18 v19 v20 v21 v22 v23 v24 v25 v26 v27 ac nf hI) (cwV 1 hts g_m_drop_m_isShape_93 rfl rfl rfl (by decide +kernel) ⟨(Nat.le_of_ble_eq_true rfl), (Nat.le_of_ble_eq_true rfl)⟩) ⟨preS_blind, va_recv hKc hPc (ci := 7) (q0 := 0) rfl rfl, fun U hU hW => ⟨rfl, preS_at hU hW hPc hKc hev⟩⟩ rfl rfl hl.1 rfl (lv_room (Nat.le_of_ble_eq_true rfl)) dX9_drop_2 ⟨(Nat.le_of_ble_eq_true rfl), (Nat.le_of_ble_eq_true rfl)⟩) (fun r_1 hw => ?_)
  have hr_1 : (r_1.toInt = 1 ∧ 0 ≤ a.toInt ∧ a.toInt < (nf 0).toInt ∧ a.toInt ≤ 8) ∨ r_1.toInt = 0 := hw
  refine lv_if_ne (tgt := 15) hx hb dX9_drop_5 (by decide) (fun c_2 => ?_) (fun c_2 => ?_)
  · skip
    have tc_2 : ¬ r_1.toInt = 0 := fun h => c_2 ((fa_eq _ _).mpr h)
    have i_3 : 0 ≤ a.toInt ∧ a.toInt < (nf 0).toInt ∧ a.toInt ≤ 8 := by omega
    refine lv_aload_n hx hb dX9_drop_15 rfl (lv_at hl 0 rfl) ?_
    refine lv_iload_n hx hb dX9_drop_16 rfl (lv_at hl 1 rfl) ?_
    have hPc := hP.sub (ws' := [(h0, .inr (7, [.ref a0, v1, v2, v3, v4, .ref t0, v6, v7, v8, v9, v10, v11, v12, v13, v14, v15, v16, v17, v18, v19, v20, v21, v22, v23, v24, v25, v26, v27])), (a0, .inl (ac, 38, .inl nf))]) [0, 2] rfl
    have hKc := hK.sub (tys' := [(ac, .int)]) [1] rfl
    refine vp_callSi (W.runV (As := [.int a]) (rest := []) ⟨hx, hb, hml, hown, hts⟩ (m_holdOf l dC dI ad h0 a a0 v1 v2 v3 v4 (.ref t0) v6 v7 v8 v9 v10 v11 v12 v13 v14 v15 v16 v17 v18 v19 v20 v21 v22 v23 v24 v25 v26 v27 ac nf hI) (cwV 1 hts g_m_drop_m_holdOf_96 rfl rfl rfl (by decide +kernel) ⟨(Nat.le_of_ble_eq_true rfl), (Nat.le_of_ble_eq_true rfl)⟩) ⟨preS_blind, va_recv hKc hPc (ci := 7) (q0 := 0) rfl rfl, fun U hU hW => ⟨rfl, preS_at hU hW hPc hKc hev⟩⟩ rfl rfl hl.1 rfl (lv_room (Nat.le_of_ble_eq_true rfl)) dX9_drop_17 ⟨(Nat.le_of_ble_eq_true rfl), (Nat.le_of_ble_eq_true rfl)⟩) (fun r_4 hw => ?_)
    have hr_4 : (-1) ≤ r_4.toInt ∧ r_4.toInt ≤ 3 ∧ ((0 ≤ r_4.toInt ∧ hF nf a.toInt) ∨ (r_4.toInt = (-1) ∧ ¬ hF nf a.toInt)) := hw
    refine lv_istore_n (lv' := [(2, .int r_4), (0, .ref h0), (1, .int a)]) hx hb dX9_drop_20 rfl hl (by decide) rfl (fun ls hl => ?_)
    refine lv_iload_n hx hb dX9_drop_21 rfl (lv_at hl 0 rfl) ?_
    refine lv_if_ge (tgt := 32) hx hb dX9_drop_22 (by decide) (fun c_5 => ?_) (fun c_5 => ?_)
    · skip
      have tc_5 : 0 ≤ r_4.toInt := (fa_le _ _).mp c_5
      refine lv_aload_n hx hb dX9_drop_32 rfl (lv_at hl 1 rfl) ?_
      refine va_get (D := (dC, dI)) (ci := 7) (v := .ref a0) (C := RX9) (T := TX9) (N := 28) hx hb hts inX9 hown hK hP 0 rfl rfl 0 (by decide) (hts _ (List.mem_of_getElem? (i := 6) rfl)) (fun _ h9 => h9) rfl dX9_drop_33 ?_
      refine lv_bipush (v := 30) hx hb dX9_drop_36 (by decide) ?_
      refine lv_iload_n hx hb dX9_drop_38 rfl (lv_at hl 0 rfl) ?_
      refine lv_iadd hx hb dX9_drop_39 ?_
      refine lv_topi (fun n_6 en_6 => ?_)
      have tn_6 : n_6.toInt = 30 + r_4.toInt := pp_add en_6 rfl rfl (by omega) (by omega)
      clear en_6
      refine lv_iconst (v := (-1)) hx hb dX9_drop_40 (by decide) ?_
      refine va_iast hx hb hK hP hD hS 2 1 rfl rfl (vp_in_iff.mpr ⟨by omega, by omega⟩) dX9_drop_41 (fun H locs hP hD hS => ?_)
      have hP : va_P (dC, dI) vwCl [(h0, .inr (7, [.ref a0, v1, v2, v3, v4, .ref t0, v6, v7, v8, v9, v10, v11, v12, v13, v14, v15, v16, v17, v18, v19, v20, v21, v22, v23, v24, v25, v26, v27])), (t0, .inl (tc, 8, .inl tf)), (a0, .inl (ac, 38, .inl (upd nf n_6.toNatClampNeg (-1))))] H := hP
      have hD : va_D A [(h0, .inr (7, [.ref a0, v1, v2, v3, v4, .ref t0, v6, v7, v8, v9, v10, v11, v12, v13, v14, v15, v16, v17, v18, v19, v20, v21, v22, v23, v24, v25, v26, v27])), (t0, .inl (tc, 8, .inl tf)), (a0, .inl (ac, 38, .inl (upd nf n_6.toNatClampNeg (-1))))] := hD
      have q_8 : ((upd nf n_6.toNatClampNeg (-1)) 0).toInt = (nf 0).toInt := pp_up_ne (by omega) (by omega)
      have q_9 : ((upd nf n_6.toNatClampNeg (-1)) 1).toInt = (nf 1).toInt := pp_up_ne (by omega) (by omega)
      have q_10 : ((upd nf n_6.toNatClampNeg (-1)) 2).toInt = (nf 2).toInt := pp_up_ne (by omega) (by omega)
      have q_11 : (n_6.toInt = 30 → ((upd nf n_6.toNatClampNeg (-1)) 30).toInt = (-1)) ∧ (¬ n_6.toInt = 30 → ((upd nf n_6.toNatClampNeg (-1)) 30).toInt = (nf 30).toInt) := pp_up_or (by omega) (by decide)
      have q_12 : (n_6.toInt = 31 → ((upd nf n_6.toNatClampNeg (-1)) 31).toInt = (-1)) ∧ (¬ n_6.toInt = 31 → ((upd nf n_6.toNatClampNeg (-1)) 31).toInt = (nf 31).toInt) := pp_up_or (by omega) (by decide)
      have q_13 : (n_6.toInt = 32 → ((upd nf n_6.toNatClampNeg (-1)) 32).toInt = (-1)) ∧ (¬ n_6.toInt = 32 → ((upd nf n_6.toNatClampNeg (-1)) 32).toInt = (nf 32).toInt) := pp_up_or (by omega) (by decide)
      have q_14 : (n_6.toInt = 33 → ((upd nf n_6.toNatClampNeg (-1)) 33).toInt = (-1)) ∧ (¬ n_6.toInt = 33 → ((upd nf n_6.toNatClampNeg (-1)) 33).toInt = (nf 33).toInt) := pp_up_or (by omega) (by decide)
      have hI_15 : mI (upd nf n_6.toNatClampNeg (-1)) := mI_holdx hI (by omega) (by omega) (by first | decide | omega) (by first | decide | omega) (Or.inl (by decide))
      generalize upd nf n_6.toNatClampNeg (-1) = f_7 at hP hD q_8 q_9 q_10 q_11 q_12 q_13 q_14 hI_15
      have hP : va_P (dC, dI) vwCl [(h0, .inr (7, [.ref a0, v1, v2, v3, v4, .ref t0, v6, v7, v8, v9, v10, v11, v12, v13, v14, v15, v16, v17, v18, v19, v20, v21, v22, v23, v24, v25, v26, v27])), (t0, .inl (tc, 8, .inl tf)), (a0, .inl (ac, 38, .inl f_7))] H := hP
      have hD : va_D A [(h0, .inr (7, [.ref a0, v1, v2, v3, v4, .ref t0, v6, v7, v8, v9, v10, v11, v12, v13, v14, v15, v16, v17, v18, v19, v20, v21, v22, v23, v24, v25, v26, v27])), (t0, .inl (tc, 8, .inl tf)), (a0, .inl (ac, 38, .inl f_7))] := hD
      refine lv_aload_n hx hb dX9_drop_42 rfl (lv_at hl 1 rfl) ?_
      refine va_get (D := (dC, dI)) (ci := 7) (v := .ref a0) (C := RX9) (T := TX9) (N := 28) hx hb hts inX9 hown hK hP 0 rfl rfl 0 (by decide) (hts _ (List.mem_of_getElem? (i := 6) rfl)) (fun _ h9 => h9) rfl dX9_drop_43 ?_
      refine lv_bipush (v := 34) hx hb dX9_drop_46 (by decide) ?_
      refine lv_iload_n hx hb dX9_drop_48 rfl (lv_at hl 0 rfl) ?_
      refine lv_iadd hx hb dX9_drop_49 ?_
      refine lv_topi (fun n_16 en_16 => ?_)
      have tn_16 : n_16.toInt = 34 + r_4.toInt := pp_add en_16 rfl rfl (by omega) (by omega)
      clear en_16
      refine lv_iconst (v := (-1)) hx hb dX9_drop_50 (by decide) ?_
      refine va_iast hx hb hK hP hD hS 2 1 rfl rfl (vp_in_iff.mpr ⟨by omega, by omega⟩) dX9_drop_51 (fun H locs hP hD hS => ?_)
      have hP : va_P (dC, dI) vwCl [(h0, .inr (7, [.ref a0, v1, v2, v3, v4, .ref t0, v6, v7, v8, v9, v10, v11, v12, v13, v14, v15, v16, v17, v18, v19, v20, v21, v22, v23, v24, v25, v26, v27])), (t0, .inl (tc, 8, .inl tf)), (a0, .inl (ac, 38, .inl (upd f_7 n_16.toNatClampNeg (-1))))] H := hP
      have hD : va_D A [(h0, .inr (7, [.ref a0, v1, v2, v3, v4, .ref t0, v6, v7, v8, v9, v10, v11, v12, v13, v14, v15, v16, v17, v18, v19, v20, v21, v22, v23, v24, v25, v26, v27])), (t0, .inl (tc, 8, .inl tf)), (a0, .inl (ac, 38, .inl (upd f_7 n_16.toNatClampNeg (-1))))] := hD
      have q_18 : ((upd f_7 n_16.toNatClampNeg (-1)) 0).toInt = (f_7 0).toInt := pp_up_ne (by omega) (by omega)
      have q_19 : ((upd f_7 n_16.toNatClampNeg (-1)) 1).toInt = (f_7 1).toInt := pp_up_ne (by omega) (by omega)
      have q_20 : ((upd f_7 n_16.toNatClampNeg (-1)) 2).toInt = (f_7 2).toInt := pp_up_ne (by omega) (by omega)
      have q_21 : ((upd f_7 n_16.toNatClampNeg (-1)) 30).toInt = (f_7 30).toInt := pp_up_ne (by omega) (by omega)
      have q_22 : ((upd f_7 n_16.toNatClampNeg (-1)) 31).toInt = (f_7 31).toInt := pp_up_ne (by omega) (by omega)
      have q_23 : ((upd f_7 n_16.toNatClampNeg (-1)) 32).toInt = (f_7 32).toInt := pp_up_ne (by omega) (by omega)
      have q_24 : ((upd f_7 n_16.toNatClampNeg (-1)) 33).toInt = (f_7 33).toInt := pp_up_ne (by omega) (by omega)
      have hI_25 : mI (upd f_7 n_16.toNatClampNeg (-1)) := mI_01 hI_15 (by have := mI_b hI_15; omega) (by have := mI_b hI_15; omega) (by omega) (by omega) (by omega) (by omega)
      generalize upd f_7 n_16.toNatClampNeg (-1) = f_17 at hP hD q_18 q_19 q_20 q_21 q_22 q_23 q_24 hI_25
      have hP : va_P (dC, dI) vwCl [(h0, .inr (7, [.ref a0, v1, v2, v3, v4, .ref t0, v6, v7, v8, v9, v10, v11, v12, v13, v14, v15, v16, v17, v18, v19, v20, v21, v22, v23, v24, v25, v26, v27])), (t0, .inl (tc, 8, .inl tf)), (a0, .inl (ac, 38, .inl f_17))] H := hP
      have hD : va_D A [(h0, .inr (7, [.ref a0, v1, v2, v3, v4, .ref t0, v6, v7, v8, v9, v10, v11, v12, v13, v14, v15, v16, v17, v18, v19, v20, v21, v22, v23, v24, v25, v26, v27])), (t0, .inl (tc, 8, .inl tf)), (a0, .inl (ac, 38, .inl f_17))] := hD
      refine lv_iload_n hx hb dX9_drop_52 rfl (lv_at hl 0 rfl) ?_
      have hP9 := hP.sub (ws' := [(h0, .inr (7, [.ref a0, v1, v2, v3, v4, .ref t0, v6, v7, v8, v9, v10, v11, v12, v13, v14, v15, v16, v17, v18, v19, v20, v21, v22, v23, v24, v25, v26, v27])), (t0, .inl (tc, 8, .inl tf)), (a0, .inl (ac, 38, .inl f_17))]) [0, 1, 2] rfl
      have hD9 := hD.sub (ws' := [(h0, .inr (7, [.ref a0, v1, v2, v3, v4, .ref t0, v6, v7, v8, v9, v10, v11, v12, v13, v14, v15, v16, v17, v18, v19, v20, v21, v22, v23, v24, v25, v26, v27])), (t0, .inl (tc, 8, .inl tf)), (a0, .inl (ac, 38, .inl f_17))]) [0, 1, 2] (by decide) rfl
      have hK9 := hK.sub (tys' := [(tc, .int), (ac, .int)]) [0, 1] rfl
      exact W.iret (v := r_4) hx hb hr (fun t ht hW => ⟨⟨r_4, (), rfl, trivial, tf, f_17, hI_25, (by first | omega | decide | (simp only [fa_lt, fa_le, fa_eq, and_true, true_and, and_false, false_and, not_true_eq_false, not_false_eq_true, li_0, li_1, li_2, li_3, li_4, li_5, li_6, li_7, li_8, li_9, li_10, li_12, li_15, li_16, li_20, li_30, li_34, li_38, li_40, li_63, li_64, li_65, li_78, li_120, li_1000, li_4000, li_10000, li_11077, li_255, li_65535, li_m1, li_m2, li_m1000000001, li_m1000000002, li_m1000000003, li_m1000000004, li_m1000000005, li_m1000000006, li_m1000000007, or_true, true_or, or_false, false_or, implies_true, true_implies, false_implies] <;> omega)), by rw [ht]; exact hP9, va_K.moved hW.alike hK9, hD9⟩, hS.F ht⟩) hS.2.2 dX9_drop_53
    · skip
      have tc_5 : ¬ 0 ≤ r_4.toInt := fun h => c_5 ((fa_le _ _).mpr h)
      refine lv_aload_n hx hb dX9_drop_25 rfl (lv_at hl 1 rfl) ?_
      refine lv_ldc hx hb hown (hts _ (List.mem_of_getElem? (i := 14) rfl)) dX9_drop_26 ?_
      have hPc := hP.sub (ws' := [(h0, .inr (7, [.ref a0, v1, v2, v3, v4, .ref t0, v6, v7, v8, v9, v10, v11, v12, v13, v14, v15, v16, v17, v18, v19, v20, v21, v22, v23, v24, v25, v26, v27])), (t0, .inl (tc, 8, .inl tf))]) [0, 1] rfl
      have hKc := hK.sub (tys' := [(tc, .int)]) [0] rfl
      have hDc := hD.sub (ws' := [(h0, .inr (7, [.ref a0, v1, v2, v3, v4, .ref t0, v6, v7, v8, v9, v10, v11, v12, v13, v14, v15, v16, v17, v18, v19, v20, v21, v22, v23, v24, v25, v26, v27])), (t0, .inl (tc, 8, .inl tf))]) [0, 1] (by decide) rfl
      have hFc := va_free (wc := [(h0, .inr (7, [.ref a0, v1, v2, v3, v4, .ref t0, v6, v7, v8, v9, v10, v11, v12, v13, v14, v15, v16, v17, v18, v19, v20, v21, v22, v23, v24, v25, v26, v27])), (t0, .inl (tc, 8, .inl tf))]) hD hS hA [0, 1] rfl
      refine va_calli (va_runV (As := [.int (-1000000005)]) (rest := []) ⟨hx, hb, hml, hown, hts⟩ (mf_state l dC dI ad h0 (.ref a0) v1 v2 v3 v4 t0 v6 v7 v8 v9 v10 v11 v12 v13 v14 v15 v16 v17 v18 v19 v20 v21 v22 v23 v24 v25 v26 v27 tc tf s.heap.size ) (cwV 1 hts g_m_drop_mf_state_84 rfl rfl rfl (by decide +kernel) ⟨(Nat.le_of_ble_eq_true rfl), (Nat.le_of_ble_eq_true rfl)⟩) ⟨preM_blind, va_recv hKc hPc (ci := 7) (q0 := 0) rfl rfl, fun U hU hW => ⟨rfl, preM_at hU hW hPc hKc hDc hev⟩⟩ rfl rfl hl.1 rfl (lv_room (Nat.le_of_ble_eq_true rfl)) dX9_drop_28 ⟨(Nat.le_of_ble_eq_true rfl), (Nat.le_of_ble_eq_true rfl)⟩) hS (fun q _ h => hFc q h) hFc (fun r_26 u t H1 locs ht hvm hw hB hz1 hk1 hS => ?_)
      obtain ⟨tg_27, hP1, hK1, hD1⟩ := hB
      rw [ht] at hP1
      have hK1 := va_K.moved hvm.symm hK1
      obtain ⟨hP, hD⟩ := va_join (wr := [(a0, .inl (ac, 38, .inl nf))]) (w1 := [(h0, .inr (7, [.ref a0, v1, v2, v3, v4, .ref t0, v6, v7, v8, v9, v10, v11, v12, v13, v14, v15, v16, v17, v18, v19, v20, v21, v22, v23, v24, v25, v26, v27])), (t0, .inl (tc, 8, .inl tg_27))]) hP hD [0, 1] [2] rfl rfl (by decide) (by decide) hk1 hFc hP1 hD1
      generalize H1 = H at hP hS ⊢
      have hP : va_P (dC, dI) vwCl [(a0, .inl (ac, 38, .inl nf)), (h0, .inr (7, [.ref a0, v1, v2, v3, v4, .ref t0, v6, v7, v8, v9, v10, v11, v12, v13, v14, v15, v16, v17, v18, v19, v20, v21, v22, v23, v24, v25, v26, v27])), (t0, .inl (tc, 8, .inl tg_27))] H := hP
      have hD : va_D A [(a0, .inl (ac, 38, .inl nf)), (h0, .inr (7, [.ref a0, v1, v2, v3, v4, .ref t0, v6, v7, v8, v9, v10, v11, v12, v13, v14, v15, v16, v17, v18, v19, v20, v21, v22, v23, v24, v25, v26, v27])), (t0, .inl (tc, 8, .inl tg_27))] := hD
      subst hw
      have hP9 := hP.sub (ws' := [(h0, .inr (7, [.ref a0, v1, v2, v3, v4, .ref t0, v6, v7, v8, v9, v10, v11, v12, v13, v14, v15, v16, v17, v18, v19, v20, v21, v22, v23, v24, v25, v26, v27])), (t0, .inl (tc, 8, .inl tg_27)), (a0, .inl (ac, 38, .inl nf))]) [1, 2, 0] rfl
      have hD9 := hD.sub (ws' := [(h0, .inr (7, [.ref a0, v1, v2, v3, v4, .ref t0, v6, v7, v8, v9, v10, v11, v12, v13, v14, v15, v16, v17, v18, v19, v20, v21, v22, v23, v24, v25, v26, v27])), (t0, .inl (tc, 8, .inl tg_27)), (a0, .inl (ac, 38, .inl nf))]) [1, 2, 0] (by decide) rfl
      have hK9 := hK.sub (tys' := [(tc, .int), (ac, .int)]) [0, 1] rfl
      exact W.iret (v := ((-1000000005) : Int32)) hx hb hr (fun t ht hW => ⟨⟨((-1000000005) : Int32), (), rfl, trivial, tg_27, nf, hI, (by first | omega | decide | (simp only [fa_lt, fa_le, fa_eq, and_true, true_and, and_false, false_and, not_true_eq_false, not_false_eq_true, li_0, li_1, li_2, li_3, li_4, li_5, li_6, li_7, li_8, li_9, li_10, li_12, li_15, li_16, li_20, li_30, li_34, li_38, li_40, li_63, li_64, li_65, li_78, li_120, li_1000, li_4000, li_10000, li_11077, li_255, li_65535, li_m1, li_m2, li_m1000000001, li_m1000000002, li_m1000000003, li_m1000000004, li_m1000000005, li_m1000000006, li_m1000000007, or_true, true_or, or_false, false_or, implies_true, true_implies, false_implies] <;> omega)), by rw [ht]; exact hP9, va_K.moved hW.alike hK9, hD9⟩, hS.F ht⟩) hS.2.2 dX9_drop_31
  · skip
    have tc_2 : r_1.toInt = 0 := (fa_eq _ _).mp c_2
    refine lv_aload_n hx hb dX9_drop_8 rfl (lv_at hl 0 rfl) ?_
    refine lv_ldc hx hb hown (hts _ (List.mem_of_getElem? (i := 20) rfl)) dX9_drop_9 ?_
    have hPc := hP.sub (ws' := [(h0, .inr (7, [.ref a0, v1, v2, v3, v4, .ref t0, v6, v7, v8, v9, v10, v11, v12, v13, v14, v15, v16, v17, v18, v19, v20, v21, v22, v23, v24, v25, v26, v27])), (t0, .inl (tc, 8, .inl tf))]) [0, 1] rfl
    have hKc := hK.sub (tys' := [(tc, .int)]) [0] rfl
    have hDc := hD.sub (ws' := [(h0, .inr (7, [.ref a0, v1, v2, v3, v4, .ref t0, v6, v7, v8, v9, v10, v11, v12, v13, v14, v15, v16, v17, v18, v19, v20, v21, v22, v23, v24, v25, v26, v27])), (t0, .inl (tc, 8, .inl tf))]) [0, 1] (by decide) rfl
    have hFc := va_free (wc := [(h0, .inr (7, [.ref a0, v1, v2, v3, v4, .ref t0, v6, v7, v8, v9, v10, v11, v12, v13, v14, v15, v16, v17, v18, v19, v20, v21, v22, v23, v24, v25, v26, v27])), (t0, .inl (tc, 8, .inl tf))]) hD hS hA [0, 1] rfl
    refine va_calli (va_runV (As := [.int (-1000000001)]) (rest := []) ⟨hx, hb, hml, hown, hts⟩ (mf_beyond l dC dI ad h0 (.ref a0) v1 v2 v3 v4 t0 v6 v7 v8 v9 v10 v11 v12 v13 v14 v15 v16 v17 v18 v19 v20 v21 v22 v23 v24 v25 v26 v27 tc tf s.heap.size ) (cwV 1 hts g_m_drop_mf_beyond_84 rfl rfl rfl (by decide +kernel) ⟨(Nat.le_of_ble_eq_true rfl), (Nat.le_of_ble_eq_true rfl)⟩) ⟨preM_blind, va_recv hKc hPc (ci := 7) (q0 := 0) rfl rfl, fun U hU hW => ⟨rfl, preM_at hU hW hPc hKc hDc hev⟩⟩ rfl rfl hl.1 rfl (lv_room (Nat.le_of_ble_eq_true rfl)) dX9_drop_11 ⟨(Nat.le_of_ble_eq_true rfl), (Nat.le_of_ble_eq_true rfl)⟩) hS (fun q _ h => hFc q h) hFc (fun r_28 u t H1 locs ht hvm hw hB hz1 hk1 hS => ?_)
    obtain ⟨tg_29, hP1, hK1, hD1⟩ := hB
    rw [ht] at hP1
    have hK1 := va_K.moved hvm.symm hK1
    obtain ⟨hP, hD⟩ := va_join (wr := [(a0, .inl (ac, 38, .inl nf))]) (w1 := [(h0, .inr (7, [.ref a0, v1, v2, v3, v4, .ref t0, v6, v7, v8, v9, v10, v11, v12, v13, v14, v15, v16, v17, v18, v19, v20, v21, v22, v23, v24, v25, v26, v27])), (t0, .inl (tc, 8, .inl tg_29))]) hP hD [0, 1] [2] rfl rfl (by decide) (by decide) hk1 hFc hP1 hD1
    generalize H1 = H at hP hS ⊢
    have hP : va_P (dC, dI) vwCl [(a0, .inl (ac, 38, .inl nf)), (h0, .inr (7, [.ref a0, v1, v2, v3, v4, .ref t0, v6, v7, v8, v9, v10, v11, v12, v13, v14, v15, v16, v17, v18, v19, v20, v21, v22, v23, v24, v25, v26, v27])), (t0, .inl (tc, 8, .inl tg_29))] H := hP
    have hD : va_D A [(a0, .inl (ac, 38, .inl nf)), (h0, .inr (7, [.ref a0, v1, v2, v3, v4, .ref t0, v6, v7, v8, v9, v10, v11, v12, v13, v14, v15, v16, v17, v18, v19, v20, v21, v22, v23, v24, v25, v26, v27])), (t0, .inl (tc, 8, .inl tg_29))] := hD
    subst hw
    have hP9 := hP.sub (ws' := [(h0, .inr (7, [.ref a0, v1, v2, v3, v4, .ref t0, v6, v7, v8, v9, v10, v11, v12, v13, v14, v15, v16, v17, v18, v19, v20, v21, v22, v23, v24, v25, v26, v27])), (t0, .inl (tc, 8, .inl tg_29)), (a0, .inl (ac, 38, .inl nf))]) [1, 2, 0] rfl
    have hD9 := hD.sub (ws' := [(h0, .inr (7, [.ref a0, v1, v2, v3, v4, .ref t0, v6, v7, v8, v9, v10, v11, v12, v13, v14, v15, v16, v17, v18, v19, v20, v21, v22, v23, v24, v25, v26, v27])), (t0, .inl (tc, 8, .inl tg_29)), (a0, .inl (ac, 38, .inl nf))]) [1, 2, 0] (by decide) rfl
    have hK9 := hK.sub (tys' := [(tc, .int), (ac, .int)]) [0, 1] rfl
    exact W.iret (v := ((-1000000001) : Int32)) hx hb hr (fun t ht hW => ⟨⟨((-1000000001) : Int32), (), rfl, trivial, tg_29, nf, hI, (by first | omega | decide | (simp only [fa_lt, fa_le, fa_eq, and_true, true_and, and_false, false_and, not_true_eq_false, not_false_eq_true, li_0, li_1, li_2, li_3, li_4, li_5, li_6, li_7, li_8, li_9, li_10, li_12, li_15, li_16, li_20, li_30, li_34, li_38, li_40, li_63, li_64, li_65, li_78, li_120, li_1000, li_4000, li_10000, li_11077, li_255, li_65535, li_m1, li_m2, li_m1000000001, li_m1000000002, li_m1000000003, li_m1000000004, li_m1000000005, li_m1000000006, li_m1000000007, or_true, true_or, or_false, false_or, implies_true, true_implies, false_implies] <;> omega)), by rw [ht]; exact hP9, va_K.moved hW.alike hK9, hD9⟩, hS.F ht⟩) hS.2.2 dX9_drop_14

def w_m_held : List Cond := .code yX9_held cX9_held 3 (some .int) :: (([.methodLink RX9 75 yX9_within, .static yX9_within, .initialized RX9, .code yX9_within cX9_within 3 (some .boolean), .constant RX9 74 (-1000000001), .methodLink RX9 84 yX9_finding, .instanceMethod yX9_finding, .selects RX9 yX9_finding yX9_finding, .code yX9_finding cX9_finding 2 (some .int), .fieldLink RX9 23 "LampShapesModel" "found" "[I", .fieldLink RX9 9 "LampShapesModel" "now" "[I"] : List Cond) ++ wsX90)
set_option maxRecDepth 20000 in
theorem g_m_held_m_within_75 : GoodIn w_m_held (va_wsS RX9 75 yX9_within w_m_within) := goodIn_r _ [1, 2, 3, 4] rfl (by decide +kernel)
set_option maxRecDepth 20000 in
theorem g_m_held_mf_beyond_84 : GoodIn w_m_held (wsV RX9 84 RX9 yX9_finding w_mf_beyond) := goodIn_r _ [6, 7, 8, 3, 9, 10, 5, 12, 13, 14, 15, 16, 17, 18, 19, 20, 21, 22, 23, 24, 25, 26, 27, 28, 29, 30, 31, 32, 33, 34, 35, 36, 37, 38, 39] rfl (by decide +kernel)
set_option maxHeartbeats 4000000 in
set_option maxRecDepth 100000 in
theorem m_held (l : Launch) (dC : Nat → ClassId) (dI : Nat → Nat → Nat) (ad : Nat → Nat) (h0 : Nat) (a : Int32) (b : Int32) (a0 : Nat) (v1 : Value) (v2 : Value) (v3 : Value) (v4 : Value) (t0 : Nat) (v6 : Value) (v7 : Value) (v8 : Value) (v9 : Value) (v10 : Value) (v11 : Value) (v12 : Value) (v13 : Value) (v14 : Value) (v15 : Value) (v16 : Value) (v17 : Value) (v18 : Value) (v19 : Value) (v20 : Value) (v21 : Value) (v22 : Value) (v23 : Value) (v24 : Value) (v25 : Value) (v26 : Value) (v27 : Value) (tc : ClassId) (tf : Nat → Int32) (ac : ClassId) (nf : Nat → Int32) (sz : Nat) (hI : mI nf) : Met l yX9_held w_m_held ({ frames := 1, cells := 0, slots := 0, locals := 22 } : Room) (va_Pc [.ref h0, .int a, .int b] (preM dC dI ad [(tc, .int), (ac, .int)] [(h0, .inr (7, [.ref a0, v1, v2, v3, v4, .ref t0, v6, v7, v8, v9, v10, v11, v12, v13, v14, v15, v16, v17, v18, v19, v20, v21, v22, v23, v24, v25, v26, v27])), (t0, .inl (tc, 8, .inl tf)), (a0, .inl (ac, 38, .inl nf))] sz)) (va_Qi (fun (r : Int32) (_ : Unit) => True) (fun _ t => ∃ (tg : Nat → Int32), va_P (dC, dI) vwCl [(h0, .inr (7, [.ref a0, v1, v2, v3, v4, .ref t0, v6, v7, v8, v9, v10, v11, v12, v13, v14, v15, v16, v17, v18, v19, v20, v21, v22, v23, v24, v25, v26, v27])), (t0, .inl (tc, 8, .inl tg)), (a0, .inl (ac, 38, .inl nf))] t.heap ∧ va_K (dC, dI) vwCl [(tc, .int), (ac, .int)] t ∧ va_D (va_A [(h0, .inr (7, [.ref a0, v1, v2, v3, v4, .ref t0, v6, v7, v8, v9, v10, v11, v12, v13, v14, v15, v16, v17, v18, v19, v20, v21, v22, v23, v24, v25, v26, v27])), (t0, .inl (tc, 8, .inl tf)), (a0, .inl (ac, 38, .inl nf))] sz) [(h0, .inr (7, [.ref a0, v1, v2, v3, v4, .ref t0, v6, v7, v8, v9, v10, v11, v12, v13, v14, v15, v16, v17, v18, v19, v20, v21, v22, v23, v24, v25, v26, v27])), (t0, .inl (tc, 8, .inl tg)), (a0, .inl (ac, 38, .inl nf))]) (va_A [(h0, .inr (7, [.ref a0, v1, v2, v3, v4, .ref t0, v6, v7, v8, v9, v10, v11, v12, v13, v14, v15, v16, v17, v18, v19, v20, v21, v22, v23, v24, v25, v26, v27])), (t0, .inl (tc, 8, .inl tf)), (a0, .inl (ac, 38, .inl nf))] sz)) 0 0 (va_A [(h0, .inr (7, [.ref a0, v1, v2, v3, v4, .ref t0, v6, v7, v8, v9, v10, v11, v12, v13, v14, v15, v16, v17, v18, v19, v20, v21, v22, v23, v24, v25, v26, v27])), (t0, .inl (tc, 8, .inl tf)), (a0, .inl (ac, 38, .inl nf))] sz) := by
  refine Met.ofW (cc := cX9_held) (maxL := 3) (ret := (some .int)) (by decide) rfl ?_
  intro p e s m args below meth c s₁ B hml hv
  obtain ⟨rfl, hsz, hP, hK, hD0, hev⟩ := hv
  have hx := B.exec
  have hb := B.bytes
  have hr := B.returns
  have hts := atoms_spec (ws := w_m_held) B.pre
  have hown : s.vm.findClass RX9 = some m.cls := findClass_of_methodNamed B.named
  have hlocks := B.notSynchronized
  have inX9 : ∀ w ∈ wsX90, w ∈ w_m_held := fun w h => List.mem_cons_of_mem _ (List.mem_append_right _ h)
  subst hsz
  have hD := hD0.self (sz := s.heap.size)
  generalize hAe : va_A [(h0, .inr (7, [.ref a0, v1, v2, v3, v4, .ref t0, v6, v7, v8, v9, v10, v11, v12, v13, v14, v15, v16, v17, v18, v19, v20, v21, v22, v23, v24, v25, v26, v27])), (t0, .inl (tc, 8, .inl tf)), (a0, .inl (ac, 38, .inl nf))] s.heap.size = A at hD ⊢
  have hA : ∀ q : Nat, s.heap.size ≤ q → A q := fun q h => by rw [← hAe]; exact Or.inr h
  have hS : va_S A s.heap s.heap [] := va_S.rf
  have hP : va_P (dC, dI) vwCl [(h0, .inr (7, [.ref a0, v1, v2, v3, v4, .ref t0, v6, v7, v8, v9, v10, v11, v12, v13, v14, v15, v16, v17, v18, v19, v20, v21, v22, v23, v24, v25, v26, v27])), (t0, .inl (tc, 8, .inl tf)), (a0, .inl (ac, 38, .inl nf))] s.heap := hP
  have hl := lv_entry ([.ref h0, .int a, .int b]) (n := 3) (Nat.le_of_ble_eq_true rfl)
  rw [lg_entry_eq]
  generalize (lg_sl ([.ref h0, .int a, .int b]) ++ List.replicate (3 - (lg_sl ([.ref h0, .int a, .int b])).length) Slot.unset).toArray = ls at hl ⊢
  have hl : lv_has ls 3 [(0, .ref h0), (1, .int a), (2, .int b)] := hl
  refine lv_iload_n hx hb dX9_held_0 rfl (lv_at hl 1 rfl) ?_
  refine lv_iconst (v := 0) hx hb dX9_held_1 (by decide) ?_
  refine lv_iconst (v := 3) hx hb dX9_held_2 (by decide) ?_
  have hPc := hP.sub (ws' := []) [] rfl
  have hKc := hK.sub (tys' := []) [] rfl
  refine vp_callSi (W.runS (As := [.int a, .int 0, .int 3]) (rest := []) ⟨hx, hb, hml, hown, hts⟩ (m_within l dC dI ad a 0 3 ) (va_cwS 3 hts g_m_held_m_within_75 rfl rfl rfl (by decide +kernel) ⟨(Nat.le_of_ble_eq_true rfl), (Nat.le_of_ble_eq_true rfl)⟩) ⟨preS_blind, fun U hU hW => ⟨rfl, preS_at hU hW hPc hKc hev⟩⟩ rfl rfl hl.1 rfl (lv_room (Nat.le_of_ble_eq_true rfl)) dX9_held_3 ⟨(Nat.le_of_ble_eq_true rfl), (Nat.le_of_ble_eq_true rfl)⟩) (fun r_1 hw => ?_)
  have hr_1 : (r_1.toInt = 1 ∧ 0 ≤ a.toInt ∧ a.toInt ≤ 3) ∨ (r_1.toInt = 0 ∧ ¬ (0 ≤ a.toInt ∧ a.toInt ≤ 3)) := hw
  refine lv_if_eq (tgt := 39) hx hb dX9_held_6 (by decide) (fun c_2 => ?_) (fun c_2 => ?_)
  · skip
    have tc_2 : r_1.toInt = 0 := (fa_eq _ _).mp c_2
    refine lv_aload_n hx hb dX9_held_39 rfl (lv_at hl 0 rfl) ?_
    refine lv_ldc hx hb hown (hts _ (List.mem_of_getElem? (i := 5) rfl)) dX9_held_40 ?_
    have hPc := hP.sub (ws' := [(h0, .inr (7, [.ref a0, v1, v2, v3, v4, .ref t0, v6, v7, v8, v9, v10, v11, v12, v13, v14, v15, v16, v17, v18, v19, v20, v21, v22, v23, v24, v25, v26, v27])), (t0, .inl (tc, 8, .inl tf))]) [0, 1] rfl
    have hKc := hK.sub (tys' := [(tc, .int)]) [0] rfl
    have hDc := hD.sub (ws' := [(h0, .inr (7, [.ref a0, v1, v2, v3, v4, .ref t0, v6, v7, v8, v9, v10, v11, v12, v13, v14, v15, v16, v17, v18, v19, v20, v21, v22, v23, v24, v25, v26, v27])), (t0, .inl (tc, 8, .inl tf))]) [0, 1] (by decide) rfl
    have hFc := va_free (wc := [(h0, .inr (7, [.ref a0, v1, v2, v3, v4, .ref t0, v6, v7, v8, v9, v10, v11, v12, v13, v14, v15, v16, v17, v18, v19, v20, v21, v22, v23, v24, v25, v26, v27])), (t0, .inl (tc, 8, .inl tf))]) hD hS hA [0, 1] rfl
    refine va_calli (va_runV (As := [.int (-1000000001)]) (rest := []) ⟨hx, hb, hml, hown, hts⟩ (mf_beyond l dC dI ad h0 (.ref a0) v1 v2 v3 v4 t0 v6 v7 v8 v9 v10 v11 v12 v13 v14 v15 v16 v17 v18 v19 v20 v21 v22 v23 v24 v25 v26 v27 tc tf s.heap.size ) (cwV 1 hts g_m_held_mf_beyond_84 rfl rfl rfl (by decide +kernel) ⟨(Nat.le_of_ble_eq_true rfl), (Nat.le_of_ble_eq_true rfl)⟩) ⟨preM_blind, va_recv hKc hPc (ci := 7) (q0 := 0) rfl rfl, fun U hU hW => ⟨rfl, preM_at hU hW hPc hKc hDc hev⟩⟩ rfl rfl hl.1 rfl (lv_room (Nat.le_of_ble_eq_true rfl)) dX9_held_42 ⟨(Nat.le_of_ble_eq_true rfl), (Nat.le_of_ble_eq_true rfl)⟩) hS (fun q _ h => hFc q h) hFc (fun r_3 u t H1 locs ht hvm hw hB hz1 hk1 hS => ?_)
    obtain ⟨tg_4, hP1, hK1, hD1⟩ := hB
    rw [ht] at hP1
    have hK1 := va_K.moved hvm.symm hK1
    obtain ⟨hP, hD⟩ := va_join (wr := [(a0, .inl (ac, 38, .inl nf))]) (w1 := [(h0, .inr (7, [.ref a0, v1, v2, v3, v4, .ref t0, v6, v7, v8, v9, v10, v11, v12, v13, v14, v15, v16, v17, v18, v19, v20, v21, v22, v23, v24, v25, v26, v27])), (t0, .inl (tc, 8, .inl tg_4))]) hP hD [0, 1] [2] rfl rfl (by decide) (by decide) hk1 hFc hP1 hD1
    generalize H1 = H at hP hS ⊢
    have hP : va_P (dC, dI) vwCl [(a0, .inl (ac, 38, .inl nf)), (h0, .inr (7, [.ref a0, v1, v2, v3, v4, .ref t0, v6, v7, v8, v9, v10, v11, v12, v13, v14, v15, v16, v17, v18, v19, v20, v21, v22, v23, v24, v25, v26, v27])), (t0, .inl (tc, 8, .inl tg_4))] H := hP
    have hD : va_D A [(a0, .inl (ac, 38, .inl nf)), (h0, .inr (7, [.ref a0, v1, v2, v3, v4, .ref t0, v6, v7, v8, v9, v10, v11, v12, v13, v14, v15, v16, v17, v18, v19, v20, v21, v22, v23, v24, v25, v26, v27])), (t0, .inl (tc, 8, .inl tg_4))] := hD
    subst hw
    have hP9 := hP.sub (ws' := [(h0, .inr (7, [.ref a0, v1, v2, v3, v4, .ref t0, v6, v7, v8, v9, v10, v11, v12, v13, v14, v15, v16, v17, v18, v19, v20, v21, v22, v23, v24, v25, v26, v27])), (t0, .inl (tc, 8, .inl tg_4)), (a0, .inl (ac, 38, .inl nf))]) [1, 2, 0] rfl
    have hD9 := hD.sub (ws' := [(h0, .inr (7, [.ref a0, v1, v2, v3, v4, .ref t0, v6, v7, v8, v9, v10, v11, v12, v13, v14, v15, v16, v17, v18, v19, v20, v21, v22, v23, v24, v25, v26, v27])), (t0, .inl (tc, 8, .inl tg_4)), (a0, .inl (ac, 38, .inl nf))]) [1, 2, 0] (by decide) rfl
    have hK9 := hK.sub (tys' := [(tc, .int), (ac, .int)]) [0, 1] rfl
    exact W.iret (v := ((-1000000001) : Int32)) hx hb hr (fun t ht hW => ⟨⟨((-1000000001) : Int32), (), rfl, trivial, tg_4, by rw [ht]; exact hP9, va_K.moved hW.alike hK9, hD9⟩, hS.F ht⟩) hS.2.2 dX9_held_45
  · skip
    have tc_2 : ¬ r_1.toInt = 0 := fun h => c_2 ((fa_eq _ _).mpr h)
    have i_5 : 0 ≤ a.toInt ∧ a.toInt ≤ 3 := by omega
    refine lv_iload_n hx hb dX9_held_9 rfl (lv_at hl 2 rfl) ?_
    refine lv_iconst (v := 0) hx hb dX9_held_10 (by decide) ?_
    refine lv_iconst (v := 1) hx hb dX9_held_11 (by decide) ?_
    have hPc := hP.sub (ws' := []) [] rfl
    have hKc := hK.sub (tys' := []) [] rfl
    refine vp_callSi (W.runS (As := [.int b, .int 0, .int 1]) (rest := []) ⟨hx, hb, hml, hown, hts⟩ (m_within l dC dI ad b 0 1 ) (va_cwS 3 hts g_m_held_m_within_75 rfl rfl rfl (by decide +kernel) ⟨(Nat.le_of_ble_eq_true rfl), (Nat.le_of_ble_eq_true rfl)⟩) ⟨preS_blind, fun U hU hW => ⟨rfl, preS_at hU hW hPc hKc hev⟩⟩ rfl rfl hl.1 rfl (lv_room (Nat.le_of_ble_eq_true rfl)) dX9_held_12 ⟨(Nat.le_of_ble_eq_true rfl), (Nat.le_of_ble_eq_true rfl)⟩) (fun r_6 hw => ?_)
    have hr_6 : (r_6.toInt = 1 ∧ 0 ≤ b.toInt ∧ b.toInt ≤ 1) ∨ (r_6.toInt = 0 ∧ ¬ (0 ≤ b.toInt ∧ b.toInt ≤ 1)) := hw
    refine lv_if_eq (tgt := 39) hx hb dX9_held_15 (by decide) (fun c_7 => ?_) (fun c_7 => ?_)
    · skip
      have tc_7 : r_6.toInt = 0 := (fa_eq _ _).mp c_7
      refine lv_aload_n hx hb dX9_held_39 rfl (lv_at hl 0 rfl) ?_
      refine lv_ldc hx hb hown (hts _ (List.mem_of_getElem? (i := 5) rfl)) dX9_held_40 ?_
      have hPc := hP.sub (ws' := [(h0, .inr (7, [.ref a0, v1, v2, v3, v4, .ref t0, v6, v7, v8, v9, v10, v11, v12, v13, v14, v15, v16, v17, v18, v19, v20, v21, v22, v23, v24, v25, v26, v27])), (t0, .inl (tc, 8, .inl tf))]) [0, 1] rfl
      have hKc := hK.sub (tys' := [(tc, .int)]) [0] rfl
      have hDc := hD.sub (ws' := [(h0, .inr (7, [.ref a0, v1, v2, v3, v4, .ref t0, v6, v7, v8, v9, v10, v11, v12, v13, v14, v15, v16, v17, v18, v19, v20, v21, v22, v23, v24, v25, v26, v27])), (t0, .inl (tc, 8, .inl tf))]) [0, 1] (by decide) rfl
      have hFc := va_free (wc := [(h0, .inr (7, [.ref a0, v1, v2, v3, v4, .ref t0, v6, v7, v8, v9, v10, v11, v12, v13, v14, v15, v16, v17, v18, v19, v20, v21, v22, v23, v24, v25, v26, v27])), (t0, .inl (tc, 8, .inl tf))]) hD hS hA [0, 1] rfl
      refine va_calli (va_runV (As := [.int (-1000000001)]) (rest := []) ⟨hx, hb, hml, hown, hts⟩ (mf_beyond l dC dI ad h0 (.ref a0) v1 v2 v3 v4 t0 v6 v7 v8 v9 v10 v11 v12 v13 v14 v15 v16 v17 v18 v19 v20 v21 v22 v23 v24 v25 v26 v27 tc tf s.heap.size ) (cwV 1 hts g_m_held_mf_beyond_84 rfl rfl rfl (by decide +kernel) ⟨(Nat.le_of_ble_eq_true rfl), (Nat.le_of_ble_eq_true rfl)⟩) ⟨preM_blind, va_recv hKc hPc (ci := 7) (q0 := 0) rfl rfl, fun U hU hW => ⟨rfl, preM_at hU hW hPc hKc hDc hev⟩⟩ rfl rfl hl.1 rfl (lv_room (Nat.le_of_ble_eq_true rfl)) dX9_held_42 ⟨(Nat.le_of_ble_eq_true rfl), (Nat.le_of_ble_eq_true rfl)⟩) hS (fun q _ h => hFc q h) hFc (fun r_8 u t H1 locs ht hvm hw hB hz1 hk1 hS => ?_)
      obtain ⟨tg_9, hP1, hK1, hD1⟩ := hB
      rw [ht] at hP1
      have hK1 := va_K.moved hvm.symm hK1
      obtain ⟨hP, hD⟩ := va_join (wr := [(a0, .inl (ac, 38, .inl nf))]) (w1 := [(h0, .inr (7, [.ref a0, v1, v2, v3, v4, .ref t0, v6, v7, v8, v9, v10, v11, v12, v13, v14, v15, v16, v17, v18, v19, v20, v21, v22, v23, v24, v25, v26, v27])), (t0, .inl (tc, 8, .inl tg_9))]) hP hD [0, 1] [2] rfl rfl (by decide) (by decide) hk1 hFc hP1 hD1
      generalize H1 = H at hP hS ⊢
      have hP : va_P (dC, dI) vwCl [(a0, .inl (ac, 38, .inl nf)), (h0, .inr (7, [.ref a0, v1, v2, v3, v4, .ref t0, v6, v7, v8, v9, v10, v11, v12, v13, v14, v15, v16, v17, v18, v19, v20, v21, v22, v23, v24, v25, v26, v27])), (t0, .inl (tc, 8, .inl tg_9))] H := hP
      have hD : va_D A [(a0, .inl (ac, 38, .inl nf)), (h0, .inr (7, [.ref a0, v1, v2, v3, v4, .ref t0, v6, v7, v8, v9, v10, v11, v12, v13, v14, v15, v16, v17, v18, v19, v20, v21, v22, v23, v24, v25, v26, v27])), (t0, .inl (tc, 8, .inl tg_9))] := hD
      subst hw
      have hP9 := hP.sub (ws' := [(h0, .inr (7, [.ref a0, v1, v2, v3, v4, .ref t0, v6, v7, v8, v9, v10, v11, v12, v13, v14, v15, v16, v17, v18, v19, v20, v21, v22, v23, v24, v25, v26, v27])), (t0, .inl (tc, 8, .inl tg_9)), (a0, .inl (ac, 38, .inl nf))]) [1, 2, 0] rfl
      have hD9 := hD.sub (ws' := [(h0, .inr (7, [.ref a0, v1, v2, v3, v4, .ref t0, v6, v7, v8, v9, v10, v11, v12, v13, v14, v15, v16, v17, v18, v19, v20, v21, v22, v23, v24, v25, v26, v27])), (t0, .inl (tc, 8, .inl tg_9)), (a0, .inl (ac, 38, .inl nf))]) [1, 2, 0] (by decide) rfl
      have hK9 := hK.sub (tys' := [(tc, .int), (ac, .int)]) [0, 1] rfl
      exact W.iret (v := ((-1000000001) : Int32)) hx hb hr (fun t ht hW => ⟨⟨((-1000000001) : Int32), (), rfl, trivial, tg_9, by rw [ht]; exact hP9, va_K.moved hW.alike hK9, hD9⟩, hS.F ht⟩) hS.2.2 dX9_held_45
    · skip
      have tc_7 : ¬ r_6.toInt = 0 := fun h => c_7 ((fa_eq _ _).mpr h)
      have i_10 : 0 ≤ b.toInt ∧ b.toInt ≤ 1 := by omega
      refine lv_aload_n hx hb dX9_held_18 rfl (lv_at hl 0 rfl) ?_
      refine va_get (D := (dC, dI)) (ci := 7) (v := .ref a0) (C := RX9) (T := TX9) (N := 28) hx hb hts inX9 hown hK hP 0 rfl rfl 0 (by decide) (hts _ (List.mem_of_getElem? (i := 11) rfl)) (fun _ h9 => h9) rfl dX9_held_19 ?_
      refine lv_iload_n hx hb dX9_held_22 rfl (lv_at hl 2 rfl) ?_
      refine lv_if_ne (tgt := 31) hx hb dX9_held_23 (by decide) (fun c_11 => ?_) (fun c_11 => ?_)
      · skip
        have tc_11 : ¬ b.toInt = 0 := fun h => c_11 ((fa_eq _ _).mpr h)
        refine lv_bipush (v := 34) hx hb dX9_held_31 (by decide) ?_
        refine lv_iload_n hx hb dX9_held_33 rfl (lv_at hl 1 rfl) ?_
        refine lv_iadd hx hb dX9_held_34 ?_
        refine lv_topi (fun n_12 en_12 => ?_)
        have tn_12 : n_12.toInt = 34 + a.toInt := pp_add en_12 rfl rfl (by omega) (by omega)
        clear en_12
        refine va_iald hx hb hK hP 2 1 rfl rfl (vp_in_iff.mpr ⟨by omega, by omega⟩) dX9_held_35 ?_
        refine lv_topi (fun n_13 en_13 => ?_)
        clear en_13
        refine lv_goto (tgt := 45) hx hb dX9_held_36 (by decide) ?_
        have hP9 := hP.sub (ws' := [(h0, .inr (7, [.ref a0, v1, v2, v3, v4, .ref t0, v6, v7, v8, v9, v10, v11, v12, v13, v14, v15, v16, v17, v18, v19, v20, v21, v22, v23, v24, v25, v26, v27])), (t0, .inl (tc, 8, .inl tf)), (a0, .inl (ac, 38, .inl nf))]) [0, 1, 2] rfl
        have hD9 := hD.sub (ws' := [(h0, .inr (7, [.ref a0, v1, v2, v3, v4, .ref t0, v6, v7, v8, v9, v10, v11, v12, v13, v14, v15, v16, v17, v18, v19, v20, v21, v22, v23, v24, v25, v26, v27])), (t0, .inl (tc, 8, .inl tf)), (a0, .inl (ac, 38, .inl nf))]) [0, 1, 2] (by decide) rfl
        have hK9 := hK.sub (tys' := [(tc, .int), (ac, .int)]) [0, 1] rfl
        exact W.iret (v := n_13) hx hb hr (fun t ht hW => ⟨⟨n_13, (), rfl, trivial, tf, by rw [ht]; exact hP9, va_K.moved hW.alike hK9, hD9⟩, hS.F ht⟩) hS.2.2 dX9_held_45
      · skip
        have tc_11 : b.toInt = 0 := (fa_eq _ _).mp c_11
        refine lv_bipush (v := 30) hx hb dX9_held_26 (by decide) ?_
        refine lv_goto (tgt := 33) hx hb dX9_held_28 (by decide) ?_
        refine lv_iload_n hx hb dX9_held_33 rfl (lv_at hl 1 rfl) ?_
        refine lv_iadd hx hb dX9_held_34 ?_
        refine lv_topi (fun n_14 en_14 => ?_)
        have tn_14 : n_14.toInt = 30 + a.toInt := pp_add en_14 rfl rfl (by omega) (by omega)
        clear en_14
        refine va_iald hx hb hK hP 2 1 rfl rfl (vp_in_iff.mpr ⟨by omega, by omega⟩) dX9_held_35 ?_
        refine lv_topi (fun n_15 en_15 => ?_)
        have tn_15 : (-1) ≤ n_15.toInt ∧ n_15.toInt ≤ 8 := mI_rh hI en_15 (by omega) (by omega)
        clear en_15
        refine lv_goto (tgt := 45) hx hb dX9_held_36 (by decide) ?_
        have hP9 := hP.sub (ws' := [(h0, .inr (7, [.ref a0, v1, v2, v3, v4, .ref t0, v6, v7, v8, v9, v10, v11, v12, v13, v14, v15, v16, v17, v18, v19, v20, v21, v22, v23, v24, v25, v26, v27])), (t0, .inl (tc, 8, .inl tf)), (a0, .inl (ac, 38, .inl nf))]) [0, 1, 2] rfl
        have hD9 := hD.sub (ws' := [(h0, .inr (7, [.ref a0, v1, v2, v3, v4, .ref t0, v6, v7, v8, v9, v10, v11, v12, v13, v14, v15, v16, v17, v18, v19, v20, v21, v22, v23, v24, v25, v26, v27])), (t0, .inl (tc, 8, .inl tf)), (a0, .inl (ac, 38, .inl nf))]) [0, 1, 2] (by decide) rfl
        have hK9 := hK.sub (tys' := [(tc, .int), (ac, .int)]) [0, 1] rfl
        exact W.iret (v := n_15) hx hb hr (fun t ht hW => ⟨⟨n_15, (), rfl, trivial, tf, by rw [ht]; exact hP9, va_K.moved hW.alike hK9, hD9⟩, hS.F ht⟩) hS.2.2 dX9_held_45

def w_m_shadowIn : List Cond := .code yX9_shadowIn cX9_shadowIn 3 (some .long) :: (([.fieldLink RX9 9 "LampShapesModel" "now" "[I", .methodLink RX9 99 yX9_shapeIs, .instanceMethod yX9_shapeIs, .selects RX9 yX9_shapeIs yX9_shapeIs, .initialized RX9, .code yX9_shapeIs cX9_shapeIs 3 (some .int), .methodLink RX9 129 yX9_shadowOf, .instanceMethod yX9_shadowOf, .selects RX9 yX9_shadowOf yX9_shadowOf, .code yX9_shadowOf cX9_shadowOf 11 (some .long), .methodLink RX9 122 yX9_throwsOf, .static yX9_throwsOf, .code yX9_throwsOf cX9_throwsOf 8 (some .int), .methodLink RX9 112 yX9_mirrored, .static yX9_mirrored, .code yX9_mirrored cX9_mirrored 5 (some .int), .methodLink RX9 109 yX9_has, .static yX9_has, .code yX9_has cX9_has 3 (some .boolean), .methodLink RX9 75 yX9_within, .static yX9_within, .code yX9_within cX9_within 3 (some .boolean), .methodLink RX9 114 yX9_turned, .static yX9_turned, .code yX9_turned cX9_turned 7 (some .int), .methodLink RX9 119 yX9_isBetween, .static yX9_isBetween, .code yX9_isBetween cX9_isBetween 6 (some .boolean), .methodLink RX9 116 yX9_isInner, .static yX9_isInner, .code yX9_isInner cX9_isInner 3 (some .boolean)] : List Cond) ++ wsX90)
set_option maxRecDepth 20000 in
theorem g_m_shadowIn_m_shapeIs_99 : GoodIn w_m_shadowIn (wsV RX9 99 RX9 yX9_shapeIs w_m_shapeIs) := goodIn_r _ [2, 3, 4, 5, 6, 1, 32, 33, 34, 35, 36, 37, 38, 39, 40, 41, 42, 43, 44, 45, 46, 47, 48, 49, 50, 51, 52, 53, 54, 55, 56, 57, 58, 59] rfl (by decide +kernel)
set_option maxRecDepth 20000 in
theorem g_m_shadowIn_m_shadowOf_129 : GoodIn w_m_shadowIn (wsV RX9 129 RX9 yX9_shadowOf w_m_shadowOf) := goodIn_r _ [7, 8, 9, 5, 10, 2, 3, 4, 5, 6, 1, 11, 12, 13, 14, 15, 16, 17, 18, 19, 20, 21, 22, 23, 24, 25, 26, 27, 28, 29, 30, 31, 32, 33, 34, 35, 36, 37, 38, 39, 40, 41, 42, 43, 44, 45, 46, 47, 48, 49, 50, 51, 52, 53, 54, 55, 56, 57, 58, 59] rfl (by decide +kernel)
set_option maxHeartbeats 4000000 in
set_option maxRecDepth 100000 in
theorem m_shadowIn (l : Launch) (dC : Nat → ClassId) (dI : Nat → Nat → Nat) (ad : Nat → Nat) (h0 : Nat) (k : Int32) (a0 : Nat) (v1 : Value) (v2 : Value) (v3 : Value) (v4 : Value) (v5 : Value) (v6 : Value) (v7 : Value) (v8 : Value) (v9 : Value) (v10 : Value) (v11 : Value) (v12 : Value) (v13 : Value) (v14 : Value) (v15 : Value) (v16 : Value) (v17 : Value) (v18 : Value) (v19 : Value) (v20 : Value) (v21 : Value) (v22 : Value) (v23 : Value) (v24 : Value) (v25 : Value) (v26 : Value) (v27 : Value) (ac : ClassId) (nf : Nat → Int32) (hI : mI nf) (hk : 0 ≤ k.toInt ∧ k.toInt ≤ 3) : Met l yX9_shadowIn w_m_shadowIn ({ frames := 5, cells := 0, slots := 0, locals := 127 } : Room) (va_Pc [.ref h0, .int k] (preS dC dI ad [(ac, .int)] [(h0, .inr (7, [.ref a0, v1, v2, v3, v4, v5, v6, v7, v8, v9, v10, v11, v12, v13, v14, v15, v16, v17, v18, v19, v20, v21, v22, v23, v24, v25, v26, v27])), (a0, .inl (ac, 38, .inl nf))])) (vp_Sl (fun r => True)) 0 0 (fun _ => False) := by
  refine Met.ofW (cc := cX9_shadowIn) (maxL := 3) (ret := (some .long)) (by decide) rfl ?_
  intro p e s m args below meth c s₁ B hml hv
  obtain ⟨rfl, hP, hK, hev⟩ := hv
  have hx := B.exec
  have hb := B.bytes
  have hr := B.returns
  have hts := atoms_spec (ws := w_m_shadowIn) B.pre
  have hown : s.vm.findClass RX9 = some m.cls := findClass_of_methodNamed B.named
  have hlocks := B.notSynchronized
  have inX9 : ∀ w ∈ wsX90, w ∈ w_m_shadowIn := fun w h => List.mem_cons_of_mem _ (List.mem_append_right _ h)
  have hP : va_P (dC, dI) vwCl [(h0, .inr (7, [.ref a0, v1, v2, v3, v4, v5, v6, v7, v8, v9, v10, v11, v12, v13, v14, v15, v16, v17, v18, v19, v20, v21, v22, v23, v24, v25, v26, v27])), (a0, .inl (ac, 38, .inl nf))] s.heap := hP
  have hl := lv_entry ([.ref h0, .int k]) (n := 3) (Nat.le_of_ble_eq_true rfl)
  rw [lg_entry_eq]
  generalize (lg_sl ([.ref h0, .int k]) ++ List.replicate (3 - (lg_sl ([.ref h0, .int k])).length) Slot.unset).toArray = ls at hl ⊢
  have hl : lv_has ls 3 [(0, .ref h0), (1, .int k)] := hl
  refine lv_aload_n hx hb dX9_shadowIn_0 rfl (lv_at hl 0 rfl) ?_
  refine va_get (D := (dC, dI)) (ci := 7) (v := .ref a0) (C := RX9) (T := TX9) (N := 28) hx hb hts inX9 hown hK hP 0 rfl rfl 0 (by decide) (hts _ (List.mem_of_getElem? (i := 1) rfl)) (fun _ h9 => h9) rfl dX9_shadowIn_1 ?_
  refine lv_bipush (v := 30) hx hb dX9_shadowIn_4 (by decide) ?_
  refine lv_iload_n hx hb dX9_shadowIn_6 rfl (lv_at hl 1 rfl) ?_
  refine lv_iadd hx hb dX9_shadowIn_7 ?_
  refine lv_topi (fun n_1 en_1 => ?_)
  have tn_1 : n_1.toInt = 30 + k.toInt := pp_add en_1 rfl rfl (by omega) (by omega)
  clear en_1
  refine va_iald hx hb hK hP 1 0 rfl rfl (vp_in_iff.mpr ⟨by omega, by omega⟩) dX9_shadowIn_8 ?_
  refine lv_topi (fun n_2 en_2 => ?_)
  have tn_2 : (-1) ≤ n_2.toInt ∧ n_2.toInt ≤ 8 := mI_rh hI en_2 (by omega) (by omega)
  clear en_2
  refine lv_istore_n (lv' := [(2, .int n_2), (0, .ref h0), (1, .int k)]) hx hb dX9_shadowIn_9 rfl hl (by decide) rfl (fun ls hl => ?_)
  refine lv_iload_n hx hb dX9_shadowIn_10 rfl (lv_at hl 0 rfl) ?_
  refine lv_if_lt (tgt := 24) hx hb dX9_shadowIn_11 (by decide) (fun c_3 => ?_) (fun c_3 => ?_)
  · skip
    have tc_3 : n_2.toInt < 0 := (fa_lt _ _).mp c_3
    refine lv_lconst (v := 0) hx hb dX9_shadowIn_24 (by decide) ?_
    refine lv_goto (tgt := 42) hx hb dX9_shadowIn_25 (by decide) ?_
    exact W.lret (v := (0 : Int64)) hx hb hr (fun t ht hW => ⟨(0 : Int64), rfl, trivial, ht⟩) (fun _ h => absurd h List.not_mem_nil) dX9_shadowIn_42
  · skip
    have tc_3 : ¬ n_2.toInt < 0 := fun h => c_3 ((fa_lt _ _).mpr h)
    refine lv_aload_n hx hb dX9_shadowIn_14 rfl (lv_at hl 1 rfl) ?_
    refine lv_iload_n hx hb dX9_shadowIn_15 rfl (lv_at hl 0 rfl) ?_
    refine lv_iconst (v := 2) hx hb dX9_shadowIn_16 (by decide) ?_
    have hPc := hP.sub (ws' := [(h0, .inr (7, [.ref a0, v1, v2, v3, v4, v5, v6, v7, v8, v9, v10, v11, v12, v13, v14, v15, v16, v17, v18, v19, v20, v21, v22, v23, v24, v25, v26, v27])), (a0, .inl (ac, 38, .inl nf))]) [0, 1] rfl
    have hKc := hK.sub (tys' := [(ac, .int)]) [0] rfl
    refine vp_callSi (W.runV (As := [.int n_2, .int 2]) (rest := []) ⟨hx, hb, hml, hown, hts⟩ (m_shapeIs l dC dI ad h0 n_2 2 a0 v1 v2 v3 v4 v5 v6 v7 v8 v9 v10 v11 v12 v13 v14 v15 v16 v17 v18 v19 v20 v21 v22 v23 v24 v25 v26 v27 ac nf (by first | omega | decide | (simp only [fa_lt, fa_le, fa_eq, and_true, true_and, and_false, false_and, not_true_eq_false, not_false_eq_true, li_0, li_1, li_2, li_3, li_4, li_5, li_6, li_7, li_8, li_9, li_10, li_12, li_15, li_16, li_20, li_30, li_34, li_38, li_40, li_63, li_64, li_65, li_78, li_120, li_1000, li_4000, li_10000, li_11077, li_255, li_65535, li_m1, li_m2, li_m1000000001, li_m1000000002, li_m1000000003, li_m1000000004, li_m1000000005, li_m1000000006, li_m1000000007, or_true, true_or, or_false, false_or, implies_true, true_implies, false_implies] <;> omega)) (by first | omega | decide | (simp only [fa_lt, fa_le, fa_eq, and_true, true_and, and_false, false_and, not_true_eq_false, not_false_eq_true, li_0, li_1, li_2, li_3, li_4, li_5, li_6, li_7, li_8, li_9, li_10, li_12, li_15, li_16, li_20, li_30, li_34, li_38, li_40, li_63, li_64, li_65, li_78, li_120, li_1000, li_4000, li_10000, li_11077, li_255, li_65535, li_m1, li_m2, li_m1000000001, li_m1000000002, li_m1000000003, li_m1000000004, li_m1000000005, li_m1000000006, li_m1000000007, or_true, true_or, or_false, false_or, implies_true, true_implies, false_implies] <;> omega))) (cwV 2 hts g_m_shadowIn_m_shapeIs_99 rfl rfl rfl (by decide +kernel) ⟨(Nat.le_of_ble_eq_true rfl), (Nat.le_of_ble_eq_true rfl)⟩) ⟨preS_blind, va_recv hKc hPc (ci := 7) (q0 := 0) rfl rfl, fun U hU hW => ⟨rfl, preS_at hU hW hPc hKc hev⟩⟩ rfl rfl hl.1 rfl (lv_room (Nat.le_of_ble_eq_true rfl)) dX9_shadowIn_17 ⟨(Nat.le_of_ble_eq_true rfl), (Nat.le_of_ble_eq_true rfl)⟩) (fun r_4 hw => ?_)
    refine lv_iconst (v := 1) hx hb dX9_shadowIn_20 (by decide) ?_
    refine lv_icmp_ne (tgt := 28) hx hb dX9_shadowIn_21 (by decide) (fun c_5 => ?_) (fun c_5 => ?_)
    · skip
      have tc_5 : ¬ r_4.toInt = 1 := fun h => c_5 ((fa_eq _ _).mpr h)
      refine lv_aload_n hx hb dX9_shadowIn_28 rfl (lv_at hl 1 rfl) ?_
      refine lv_iload_n hx hb dX9_shadowIn_29 rfl (lv_at hl 0 rfl) ?_
      refine lv_aload_n hx hb dX9_shadowIn_30 rfl (lv_at hl 1 rfl) ?_
      refine va_get (D := (dC, dI)) (ci := 7) (v := .ref a0) (C := RX9) (T := TX9) (N := 28) hx hb hts inX9 hown hK hP 0 rfl rfl 0 (by decide) (hts _ (List.mem_of_getElem? (i := 1) rfl)) (fun _ h9 => h9) rfl dX9_shadowIn_31 ?_
      refine lv_bipush (v := 34) hx hb dX9_shadowIn_34 (by decide) ?_
      refine lv_iload_n hx hb dX9_shadowIn_36 rfl (lv_at hl 2 rfl) ?_
      refine lv_iadd hx hb dX9_shadowIn_37 ?_
      refine lv_topi (fun n_6 en_6 => ?_)
      have tn_6 : n_6.toInt = 34 + k.toInt := pp_add en_6 rfl rfl (by omega) (by omega)
      clear en_6
      refine va_iald hx hb hK hP 1 0 rfl rfl (vp_in_iff.mpr ⟨by omega, by omega⟩) dX9_shadowIn_38 ?_
      refine lv_topi (fun n_7 en_7 => ?_)
      clear en_7
      have hPc := hP.sub (ws' := [(h0, .inr (7, [.ref a0, v1, v2, v3, v4, v5, v6, v7, v8, v9, v10, v11, v12, v13, v14, v15, v16, v17, v18, v19, v20, v21, v22, v23, v24, v25, v26, v27])), (a0, .inl (ac, 38, .inl nf))]) [0, 1] rfl
      have hKc := hK.sub (tys' := [(ac, .int)]) [0] rfl
      refine vp_callSl (W.runV (As := [.int n_2, .int n_7]) (rest := []) ⟨hx, hb, hml, hown, hts⟩ (m_shadowOf l dC dI ad h0 n_2 n_7 a0 v1 v2 v3 v4 v5 v6 v7 v8 v9 v10 v11 v12 v13 v14 v15 v16 v17 v18 v19 v20 v21 v22 v23 v24 v25 v26 v27 ac nf (by first | omega | decide | (simp only [fa_lt, fa_le, fa_eq, and_true, true_and, and_false, false_and, not_true_eq_false, not_false_eq_true, li_0, li_1, li_2, li_3, li_4, li_5, li_6, li_7, li_8, li_9, li_10, li_12, li_15, li_16, li_20, li_30, li_34, li_38, li_40, li_63, li_64, li_65, li_78, li_120, li_1000, li_4000, li_10000, li_11077, li_255, li_65535, li_m1, li_m2, li_m1000000001, li_m1000000002, li_m1000000003, li_m1000000004, li_m1000000005, li_m1000000006, li_m1000000007, or_true, true_or, or_false, false_or, implies_true, true_implies, false_implies] <;> omega))) (cwV 2 hts g_m_shadowIn_m_shadowOf_129 rfl rfl rfl (by decide +kernel) ⟨(Nat.le_of_ble_eq_true rfl), (Nat.le_of_ble_eq_true rfl)⟩) ⟨preS_blind, va_recv hKc hPc (ci := 7) (q0 := 0) rfl rfl, fun U hU hW => ⟨rfl, preS_at hU hW hPc hKc hev⟩⟩ rfl rfl hl.1 rfl (lv_room (Nat.le_of_ble_eq_true rfl)) dX9_shadowIn_39 ⟨(Nat.le_of_ble_eq_true rfl), (Nat.le_of_ble_eq_true rfl)⟩) (fun r_8 hw => ?_)
      exact W.lret (v := r_8) hx hb hr (fun t ht hW => ⟨r_8, rfl, trivial, ht⟩) (fun _ h => absurd h List.not_mem_nil) dX9_shadowIn_42
    · skip
      have tc_5 : r_4.toInt = 1 := (fa_eq _ _).mp c_5
      refine lv_lconst (v := 0) hx hb dX9_shadowIn_24 (by decide) ?_
      refine lv_goto (tgt := 42) hx hb dX9_shadowIn_25 (by decide) ?_
      exact W.lret (v := (0 : Int64)) hx hb hr (fun t ht hW => ⟨(0 : Int64), rfl, trivial, ht⟩) (fun _ h => absurd h List.not_mem_nil) dX9_shadowIn_42

def w_m_darkBut : List Cond := .code yX9_darkBut cX9_darkBut 5 (some .long) :: (([.methodLink RX9 137 yX9_shadowIn, .instanceMethod yX9_shadowIn, .selects RX9 yX9_shadowIn yX9_shadowIn, .initialized RX9, .code yX9_shadowIn cX9_shadowIn 3 (some .long), .fieldLink RX9 9 "LampShapesModel" "now" "[I", .methodLink RX9 99 yX9_shapeIs, .instanceMethod yX9_shapeIs, .selects RX9 yX9_shapeIs yX9_shapeIs, .code yX9_shapeIs cX9_shapeIs 3 (some .int), .methodLink RX9 129 yX9_shadowOf, .instanceMethod yX9_shadowOf, .selects RX9 yX9_shadowOf yX9_shadowOf, .code yX9_shadowOf cX9_shadowOf 11 (some .long), .methodLink RX9 122 yX9_throwsOf, .static yX9_throwsOf, .code yX9_throwsOf cX9_throwsOf 8 (some .int), .methodLink RX9 112 yX9_mirrored, .static yX9_mirrored, .code yX9_mirrored cX9_mirrored 5 (some .int), .methodLink RX9 109 yX9_has, .static yX9_has, .code yX9_has cX9_has 3 (some .boolean), .methodLink RX9 75 yX9_within, .static yX9_within, .code yX9_within cX9_within 3 (some .boolean), .methodLink RX9 114 yX9_turned, .static yX9_turned, .code yX9_turned cX9_turned 7 (some .int), .methodLink RX9 119 yX9_isBetween, .static yX9_isBetween, .code yX9_isBetween cX9_isBetween 6 (some .boolean), .methodLink RX9 116 yX9_isInner, .static yX9_isInner, .code yX9_isInner cX9_isInner 3 (some .boolean)] : List Cond) ++ wsX90)
set_option maxRecDepth 20000 in
theorem g_m_darkBut_m_shadowIn_137 : GoodIn w_m_darkBut (wsV RX9 137 RX9 yX9_shadowIn w_m_shadowIn) := goodIn_r _ [1, 2, 3, 4, 5, 6, 7, 8, 9, 4, 10, 11, 12, 13, 14, 15, 16, 17, 18, 19, 20, 21, 22, 23, 24, 25, 26, 27, 28, 29, 30, 31, 32, 33, 34, 35, 36, 37, 38, 39, 40, 41, 42, 43, 44, 45, 46, 47, 48, 49, 50, 51, 52, 53, 54, 55, 56, 57, 58, 59, 60, 61, 62, 63] rfl (by decide +kernel)
set_option maxHeartbeats 4000000 in
set_option maxRecDepth 100000 in
theorem m_darkBut (l : Launch) (dC : Nat → ClassId) (dI : Nat → Nat → Nat) (ad : Nat → Nat) (h0 : Nat) (k : Int32) (a0 : Nat) (v1 : Value) (v2 : Value) (v3 : Value) (v4 : Value) (v5 : Value) (v6 : Value) (v7 : Value) (v8 : Value) (v9 : Value) (v10 : Value) (v11 : Value) (v12 : Value) (v13 : Value) (v14 : Value) (v15 : Value) (v16 : Value) (v17 : Value) (v18 : Value) (v19 : Value) (v20 : Value) (v21 : Value) (v22 : Value) (v23 : Value) (v24 : Value) (v25 : Value) (v26 : Value) (v27 : Value) (ac : ClassId) (nf : Nat → Int32) (hI : mI nf) : Met l yX9_darkBut w_m_darkBut ({ frames := 6, cells := 0, slots := 0, locals := 149 } : Room) (va_Pc [.ref h0, .int k] (preS dC dI ad [(ac, .int)] [(h0, .inr (7, [.ref a0, v1, v2, v3, v4, v5, v6, v7, v8, v9, v10, v11, v12, v13, v14, v15, v16, v17, v18, v19, v20, v21, v22, v23, v24, v25, v26, v27])), (a0, .inl (ac, 38, .inl nf))])) (vp_Sl (fun r => True)) 0 0 (fun _ => False) := by
  refine Met.ofW (cc := cX9_darkBut) (maxL := 5) (ret := (some .long)) (by decide) rfl ?_
  intro p e s m args below meth c s₁ B hml hv
  obtain ⟨rfl, hP, hK, hev⟩ := hv
  have hx := B.exec
  have hb := B.bytes
  have hr := B.returns
  have hts := atoms_spec (ws := w_m_darkBut) B.pre
  have hown : s.vm.findClass RX9 = some m.cls := findClass_of_methodNamed B.named
  have hlocks := B.notSynchronized
  have inX9 : ∀ w ∈ wsX90, w ∈ w_m_darkBut := fun w h => List.mem_cons_of_mem _ (List.mem_append_right _ h)
  have hP : va_P (dC, dI) vwCl [(h0, .inr (7, [.ref a0, v1, v2, v3, v4, v5, v6, v7, v8, v9, v10, v11, v12, v13, v14, v15, v16, v17, v18, v19, v20, v21, v22, v23, v24, v25, v26, v27])), (a0, .inl (ac, 38, .inl nf))] s.heap := hP
  have hl := lv_entry ([.ref h0, .int k]) (n := 5) (Nat.le_of_ble_eq_true rfl)
  rw [lg_entry_eq]
  generalize (lg_sl ([.ref h0, .int k]) ++ List.replicate (5 - (lg_sl ([.ref h0, .int k])).length) Slot.unset).toArray = ls at hl ⊢
  have hl : lv_has ls 5 [(0, .ref h0), (1, .int k)] := hl
  refine lv_lconst (v := 0) hx hb dX9_darkBut_0 (by decide) ?_
  refine lv_lstore_n (lv' := [(2, .long 0), (0, .ref h0), (1, .int k)]) hx hb dX9_darkBut_1 rfl hl (by decide) rfl (fun ls hl => ?_)
  refine lv_iconst (v := 0) hx hb dX9_darkBut_2 (by decide) ?_
  refine lv_istore (lv' := [(4, .int 0), (2, .long 0), (0, .ref h0), (1, .int k)]) hx hb dX9_darkBut_3 hl (by decide) rfl (fun ls hl => ?_)
  refine pp_loop (ι := Int32 × Int64) (fun ⟨v4_5, v2_5⟩ => (4 - v4_5.toInt).toNat) (fun ⟨v4_5, v2_5⟩ H locs ls => (0 ≤ v4_5.toInt) ∧ (v4_5.toInt ≤ 4) ∧ H = s.heap ∧ locs = [] ∧ lv_has ls 5 [(4, .int v4_5), (2, .long v2_5), (0, .ref h0), (1, .int k)]) ?_ (0, 0) _ _ _ ⟨(by first | omega | decide | (simp only [fa_lt, fa_le, fa_eq, and_true, true_and, and_false, false_and, not_true_eq_false, not_false_eq_true, li_0, li_1, li_2, li_3, li_4, li_5, li_6, li_7, li_8, li_9, li_10, li_12, li_15, li_16, li_20, li_30, li_34, li_38, li_40, li_63, li_64, li_65, li_78, li_120, li_1000, li_4000, li_10000, li_11077, li_255, li_65535, li_m1, li_m2, li_m1000000001, li_m1000000002, li_m1000000003, li_m1000000004, li_m1000000005, li_m1000000006, li_m1000000007, or_true, true_or, or_false, false_or, implies_true, true_implies, false_implies] <;> omega)), (by first | omega | decide | (simp only [fa_lt, fa_le, fa_eq, and_true, true_and, and_false, false_and, not_true_eq_false, not_false_eq_true, li_0, li_1, li_2, li_3, li_4, li_5, li_6, li_7, li_8, li_9, li_10, li_12, li_15, li_16, li_20, li_30, li_34, li_38, li_40, li_63, li_64, li_65, li_78, li_120, li_1000, li_4000, li_10000, li_11077, li_255, li_65535, li_m1, li_m2, li_m1000000001, li_m1000000002, li_m1000000003, li_m1000000004, li_m1000000005, li_m1000000006, li_m1000000007, or_true, true_or, or_false, false_or, implies_true, true_implies, false_implies] <;> omega)), rfl, rfl, lv_sub hl [0, 1, 2, 3] rfl⟩
  intro k_1 ihk_1 u H locs ls hm hI
  obtain ⟨v4_5, v2_5⟩ := u
  obtain ⟨jk_1_0, jk_1_1, rfl, rfl, hl⟩ := hI
  have hmk_1 : (4 - v4_5.toInt).toNat < k_1 + 1 := hm
  clear hm
  have jk_1_0 : 0 ≤ v4_5.toInt := jk_1_0
  have jk_1_1 : v4_5.toInt ≤ 4 := jk_1_1
  have hl : lv_has ls 5 [(4, .int v4_5), (2, .long v2_5), (0, .ref h0), (1, .int k)] := hl
  refine lv_iload hx hb dX9_darkBut_5 (lv_at hl 0 rfl) ?_
  refine lv_iconst (v := 4) hx hb dX9_darkBut_7 (by decide) ?_
  refine lv_icmp_ge (tgt := 36) hx hb dX9_darkBut_8 (by decide) (fun c_2 => ?_) (fun c_2 => ?_)
  · skip
    have tc_2 : 4 ≤ v4_5.toInt := (fa_le _ _).mp c_2
    refine lv_lload_n hx hb dX9_darkBut_36 rfl (lv_at hl 1 rfl) ?_
    exact W.lret (v := v2_5) hx hb hr (fun t ht hW => ⟨v2_5, rfl, trivial, ht⟩) (fun _ h => absurd h List.not_mem_nil) dX9_darkBut_37
  · skip
    have tc_2 : ¬ 4 ≤ v4_5.toInt := fun h => c_2 ((fa_le _ _).mpr h)
    refine lv_lload_n hx hb dX9_darkBut_11 rfl (lv_at hl 1 rfl) ?_
    refine lv_iload hx hb dX9_darkBut_12 (lv_at hl 0 rfl) ?_
    refine lv_iload_n hx hb dX9_darkBut_14 rfl (lv_at hl 3 rfl) ?_
    have rc_3_x := pp_rng v4_5
    have rc_3_y := pp_rng k
    refine lv_icmp_ne (tgt := 22) hx hb dX9_darkBut_15 (by decide) (fun c_3 => ?_) (fun c_3 => ?_)
    · skip
      have tc_3 : ¬ v4_5.toInt = k.toInt := fun h => c_3 ((fa_eq _ _).mpr h)
      refine lv_aload_n hx hb dX9_darkBut_22 rfl (lv_at hl 2 rfl) ?_
      refine lv_iload hx hb dX9_darkBut_23 (lv_at hl 0 rfl) ?_
      have hPc := hP.sub (ws' := [(h0, .inr (7, [.ref a0, v1, v2, v3, v4, v5, v6, v7, v8, v9, v10, v11, v12, v13, v14, v15, v16, v17, v18, v19, v20, v21, v22, v23, v24, v25, v26, v27])), (a0, .inl (ac, 38, .inl nf))]) [0, 1] rfl
      have hKc := hK.sub (tys' := [(ac, .int)]) [0] rfl
      refine vp_callSl (W.runV (As := [.int v4_5]) (rest := [.long v2_5]) ⟨hx, hb, hml, hown, hts⟩ (m_shadowIn l dC dI ad h0 v4_5 a0 v1 v2 v3 v4 v5 v6 v7 v8 v9 v10 v11 v12 v13 v14 v15 v16 v17 v18 v19 v20 v21 v22 v23 v24 v25 v26 v27 ac nf hI (by first | omega | decide | (simp only [fa_lt, fa_le, fa_eq, and_true, true_and, and_false, false_and, not_true_eq_false, not_false_eq_true, li_0, li_1, li_2, li_3, li_4, li_5, li_6, li_7, li_8, li_9, li_10, li_12, li_15, li_16, li_20, li_30, li_34, li_38, li_40, li_63, li_64, li_65, li_78, li_120, li_1000, li_4000, li_10000, li_11077, li_255, li_65535, li_m1, li_m2, li_m1000000001, li_m1000000002, li_m1000000003, li_m1000000004, li_m1000000005, li_m1000000006, li_m1000000007, or_true, true_or, or_false, false_or, implies_true, true_implies, false_implies] <;> omega))) (cwV 1 hts g_m_darkBut_m_shadowIn_137 rfl rfl rfl (by decide +kernel) ⟨(Nat.le_of_ble_eq_true rfl), (Nat.le_of_ble_eq_true rfl)⟩) ⟨preS_blind, va_recv hKc hPc (ci := 7) (q0 := 0) rfl rfl, fun U hU hW => ⟨rfl, preS_at hU hW hPc hKc hev⟩⟩ rfl rfl hl.1 rfl (lv_room (Nat.le_of_ble_eq_true rfl)) dX9_darkBut_25 ⟨(Nat.le_of_ble_eq_true rfl), (Nat.le_of_ble_eq_true rfl)⟩) (fun r_4 hw => ?_)
      refine lv_lor hx hb dX9_darkBut_28 ?_
      refine lv_topl (fun n_5 en_5 => ?_)
      clear en_5
      refine lv_lstore_n (lv' := [(2, .long n_5), (4, .int v4_5), (0, .ref h0), (1, .int k)]) hx hb dX9_darkBut_29 rfl hl (by decide) rfl (fun ls hl => ?_)
      obtain ⟨n_6, en_6⟩ : ∃ y : Int32, y = v4_5 + 1 := ⟨_, rfl⟩
      have tn_6 : n_6.toInt = v4_5.toInt + 1 := pp_add en_6 rfl rfl (by omega) (by omega)
      refine lv_iinc (v := n_6) (lv' := [(4, .int n_6), (2, .long n_5), (0, .ref h0), (1, .int k)]) hx hb dX9_darkBut_30 hl (k := 1) rfl (by rw [en_6]; rfl) (by decide) rfl (fun ls hl => ?_)
      clear en_6
      refine lv_goto (tgt := 5) hx hb dX9_darkBut_33 (by decide) ?_
      exact ihk_1 (n_6, n_5) _ _ _ (by show (4 - n_6.toInt).toNat < k_1; omega) ⟨(by first | omega | decide | (simp only [fa_lt, fa_le, fa_eq, and_true, true_and, and_false, false_and, not_true_eq_false, not_false_eq_true, li_0, li_1, li_2, li_3, li_4, li_5, li_6, li_7, li_8, li_9, li_10, li_12, li_15, li_16, li_20, li_30, li_34, li_38, li_40, li_63, li_64, li_65, li_78, li_120, li_1000, li_4000, li_10000, li_11077, li_255, li_65535, li_m1, li_m2, li_m1000000001, li_m1000000002, li_m1000000003, li_m1000000004, li_m1000000005, li_m1000000006, li_m1000000007, or_true, true_or, or_false, false_or, implies_true, true_implies, false_implies] <;> omega)), (by first | omega | decide | (simp only [fa_lt, fa_le, fa_eq, and_true, true_and, and_false, false_and, not_true_eq_false, not_false_eq_true, li_0, li_1, li_2, li_3, li_4, li_5, li_6, li_7, li_8, li_9, li_10, li_12, li_15, li_16, li_20, li_30, li_34, li_38, li_40, li_63, li_64, li_65, li_78, li_120, li_1000, li_4000, li_10000, li_11077, li_255, li_65535, li_m1, li_m2, li_m1000000001, li_m1000000002, li_m1000000003, li_m1000000004, li_m1000000005, li_m1000000006, li_m1000000007, or_true, true_or, or_false, false_or, implies_true, true_implies, false_implies] <;> omega)), rfl, rfl, lv_sub hl [0, 1, 2, 3] rfl⟩
    · skip
      have tc_3 : v4_5.toInt = k.toInt := (fa_eq _ _).mp c_3
      refine lv_lconst (v := 0) hx hb dX9_darkBut_18 (by decide) ?_
      refine lv_goto (tgt := 28) hx hb dX9_darkBut_19 (by decide) ?_
      refine lv_lor hx hb dX9_darkBut_28 ?_
      refine lv_topl (fun n_7 en_7 => ?_)
      clear en_7
      refine lv_lstore_n (lv' := [(2, .long n_7), (4, .int v4_5), (0, .ref h0), (1, .int k)]) hx hb dX9_darkBut_29 rfl hl (by decide) rfl (fun ls hl => ?_)
      obtain ⟨n_8, en_8⟩ : ∃ y : Int32, y = v4_5 + 1 := ⟨_, rfl⟩
      have tn_8 : n_8.toInt = v4_5.toInt + 1 := pp_add en_8 rfl rfl (by omega) (by omega)
      refine lv_iinc (v := n_8) (lv' := [(4, .int n_8), (2, .long n_7), (0, .ref h0), (1, .int k)]) hx hb dX9_darkBut_30 hl (k := 1) rfl (by rw [en_8]; rfl) (by decide) rfl (fun ls hl => ?_)
      clear en_8
      refine lv_goto (tgt := 5) hx hb dX9_darkBut_33 (by decide) ?_
      exact ihk_1 (n_8, n_7) _ _ _ (by show (4 - n_8.toInt).toNat < k_1; omega) ⟨(by first | omega | decide | (simp only [fa_lt, fa_le, fa_eq, and_true, true_and, and_false, false_and, not_true_eq_false, not_false_eq_true, li_0, li_1, li_2, li_3, li_4, li_5, li_6, li_7, li_8, li_9, li_10, li_12, li_15, li_16, li_20, li_30, li_34, li_38, li_40, li_63, li_64, li_65, li_78, li_120, li_1000, li_4000, li_10000, li_11077, li_255, li_65535, li_m1, li_m2, li_m1000000001, li_m1000000002, li_m1000000003, li_m1000000004, li_m1000000005, li_m1000000006, li_m1000000007, or_true, true_or, or_false, false_or, implies_true, true_implies, false_implies] <;> omega)), (by first | omega | decide | (simp only [fa_lt, fa_le, fa_eq, and_true, true_and, and_false, false_and, not_true_eq_false, not_false_eq_true, li_0, li_1, li_2, li_3, li_4, li_5, li_6, li_7, li_8, li_9, li_10, li_12, li_15, li_16, li_20, li_30, li_34, li_38, li_40, li_63, li_64, li_65, li_78, li_120, li_1000, li_4000, li_10000, li_11077, li_255, li_65535, li_m1, li_m2, li_m1000000001, li_m1000000002, li_m1000000003, li_m1000000004, li_m1000000005, li_m1000000006, li_m1000000007, or_true, true_or, or_false, false_or, implies_true, true_implies, false_implies] <;> omega)), rfl, rfl, lv_sub hl [0, 1, 2, 3] rfl⟩

def w_m_dark : List Cond := .code yX9_dark cX9_dark 1 (some .long) :: (([.methodLink RX9 141 yX9_darkBut, .instanceMethod yX9_darkBut, .selects RX9 yX9_darkBut yX9_darkBut, .initialized RX9, .code yX9_darkBut cX9_darkBut 5 (some .long), .methodLink RX9 137 yX9_shadowIn, .instanceMethod yX9_shadowIn, .selects RX9 yX9_shadowIn yX9_shadowIn, .code yX9_shadowIn cX9_shadowIn 3 (some .long), .fieldLink RX9 9 "LampShapesModel" "now" "[I", .methodLink RX9 99 yX9_shapeIs, .instanceMethod yX9_shapeIs, .selects RX9 yX9_shapeIs yX9_shapeIs, .code yX9_shapeIs cX9_shapeIs 3 (some .int), .methodLink RX9 129 yX9_shadowOf, .instanceMethod yX9_shadowOf, .selects RX9 yX9_shadowOf yX9_shadowOf, .code yX9_shadowOf cX9_shadowOf 11 (some .long), .methodLink RX9 122 yX9_throwsOf, .static yX9_throwsOf, .code yX9_throwsOf cX9_throwsOf 8 (some .int), .methodLink RX9 112 yX9_mirrored, .static yX9_mirrored, .code yX9_mirrored cX9_mirrored 5 (some .int), .methodLink RX9 109 yX9_has, .static yX9_has, .code yX9_has cX9_has 3 (some .boolean), .methodLink RX9 75 yX9_within, .static yX9_within, .code yX9_within cX9_within 3 (some .boolean), .methodLink RX9 114 yX9_turned, .static yX9_turned, .code yX9_turned cX9_turned 7 (some .int), .methodLink RX9 119 yX9_isBetween, .static yX9_isBetween, .code yX9_isBetween cX9_isBetween 6 (some .boolean), .methodLink RX9 116 yX9_isInner, .static yX9_isInner, .code yX9_isInner cX9_isInner 3 (some .boolean)] : List Cond) ++ wsX90)
set_option maxRecDepth 20000 in
theorem g_m_dark_m_darkBut_141 : GoodIn w_m_dark (wsV RX9 141 RX9 yX9_darkBut w_m_darkBut) := goodIn_r _ [1, 2, 3, 4, 5, 6, 7, 8, 4, 9, 10, 11, 12, 13, 14, 15, 16, 17, 18, 19, 20, 21, 22, 23, 24, 25, 26, 27, 28, 29, 30, 31, 32, 33, 34, 35, 36, 37, 38, 39, 40, 41, 42, 43, 44, 45, 46, 47, 48, 49, 50, 51, 52, 53, 54, 55, 56, 57, 58, 59, 60, 61, 62, 63, 64, 65, 66, 67] rfl (by decide +kernel)
set_option maxHeartbeats 4000000 in
set_option maxRecDepth 100000 in
theorem m_dark (l : Launch) (dC : Nat → ClassId) (dI : Nat → Nat → Nat) (ad : Nat → Nat) (h0 : Nat) (a0 : Nat) (v1 : Value) (v2 : Value) (v3 : Value) (v4 : Value) (v5 : Value) (v6 : Value) (v7 : Value) (v8 : Value) (v9 : Value) (v10 : Value) (v11 : Value) (v12 : Value) (v13 : Value) (v14 : Value) (v15 : Value) (v16 : Value) (v17 : Value) (v18 : Value) (v19 : Value) (v20 : Value) (v21 : Value) (v22 : Value) (v23 : Value) (v24 : Value) (v25 : Value) (v26 : Value) (v27 : Value) (ac : ClassId) (nf : Nat → Int32) (hI : mI nf) : Met l yX9_dark w_m_dark ({ frames := 7, cells := 0, slots := 0, locals := 173 } : Room) (va_Pc [.ref h0] (preS dC dI ad [(ac, .int)] [(h0, .inr (7, [.ref a0, v1, v2, v3, v4, v5, v6, v7, v8, v9, v10, v11, v12, v13, v14, v15, v16, v17, v18, v19, v20, v21, v22, v23, v24, v25, v26, v27])), (a0, .inl (ac, 38, .inl nf))])) (vp_Sl (fun r => True)) 0 0 (fun _ => False) := by
  refine Met.ofW (cc := cX9_dark) (maxL := 1) (ret := (some .long)) (by decide) rfl ?_
  intro p e s m args below meth c s₁ B hml hv
  obtain ⟨rfl, hP, hK, hev⟩ := hv
  have hx := B.exec
  have hb := B.bytes
  have hr := B.returns
  have hts := atoms_spec (ws := w_m_dark) B.pre
  have hown : s.vm.findClass RX9 = some m.cls := findClass_of_methodNamed B.named
  have hlocks := B.notSynchronized
  have inX9 : ∀ w ∈ wsX90, w ∈ w_m_dark := fun w h => List.mem_cons_of_mem _ (List.mem_append_right _ h)
  have hP : va_P (dC, dI) vwCl [(h0, .inr (7, [.ref a0, v1, v2, v3, v4, v5, v6, v7, v8, v9, v10, v11, v12, v13, v14, v15, v16, v17, v18, v19, v20, v21, v22, v23, v24, v25, v26, v27])), (a0, .inl (ac, 38, .inl nf))] s.heap := hP
  have hl := lv_entry ([.ref h0]) (n := 1) (Nat.le_of_ble_eq_true rfl)
  rw [lg_entry_eq]
  generalize (lg_sl ([.ref h0]) ++ List.replicate (1 - (lg_sl ([.ref h0])).length) Slot.unset).toArray = ls at hl ⊢
  have hl : lv_has ls 1 [(0, .ref h0)] := hl
  refine lv_aload_n hx hb dX9_dark_0 rfl (lv_at hl 0 rfl) ?_
  refine lv_iconst (v := (-1)) hx hb dX9_dark_1 (by decide) ?_
  have hPc := hP.sub (ws' := [(h0, .inr (7, [.ref a0, v1, v2, v3, v4, v5, v6, v7, v8, v9, v10, v11, v12, v13, v14, v15, v16, v17, v18, v19, v20, v21, v22, v23, v24, v25, v26, v27])), (a0, .inl (ac, 38, .inl nf))]) [0, 1] rfl
  have hKc := hK.sub (tys' := [(ac, .int)]) [0] rfl
  refine vp_callSl (W.runV (As := [.int (-1)]) (rest := []) ⟨hx, hb, hml, hown, hts⟩ (m_darkBut l dC dI ad h0 (-1) a0 v1 v2 v3 v4 v5 v6 v7 v8 v9 v10 v11 v12 v13 v14 v15 v16 v17 v18 v19 v20 v21 v22 v23 v24 v25 v26 v27 ac nf hI) (cwV 1 hts g_m_dark_m_darkBut_141 rfl rfl rfl (by decide +kernel) ⟨(Nat.le_of_ble_eq_true rfl), (Nat.le_of_ble_eq_true rfl)⟩) ⟨preS_blind, va_recv hKc hPc (ci := 7) (q0 := 0) rfl rfl, fun U hU hW => ⟨rfl, preS_at hU hW hPc hKc hev⟩⟩ rfl rfl hl.1 rfl (lv_room (Nat.le_of_ble_eq_true rfl)) dX9_dark_2 ⟨(Nat.le_of_ble_eq_true rfl), (Nat.le_of_ble_eq_true rfl)⟩) (fun r_1 hw => ?_)
  exact W.lret (v := r_1) hx hb hr (fun t ht hW => ⟨r_1, rfl, trivial, ht⟩) (fun _ h => absurd h List.not_mem_nil) dX9_dark_5

def w_m_single : List Cond := .code yX9_single cX9_single 4 (some .long) :: (([.methodLink RX9 137 yX9_shadowIn, .instanceMethod yX9_shadowIn, .selects RX9 yX9_shadowIn yX9_shadowIn, .initialized RX9, .code yX9_shadowIn cX9_shadowIn 3 (some .long), .fieldLink RX9 9 "LampShapesModel" "now" "[I", .methodLink RX9 99 yX9_shapeIs, .instanceMethod yX9_shapeIs, .selects RX9 yX9_shapeIs yX9_shapeIs, .code yX9_shapeIs cX9_shapeIs 3 (some .int), .methodLink RX9 129 yX9_shadowOf, .instanceMethod yX9_shadowOf, .selects RX9 yX9_shadowOf yX9_shadowOf, .code yX9_shadowOf cX9_shadowOf 11 (some .long), .methodLink RX9 122 yX9_throwsOf, .static yX9_throwsOf, .code yX9_throwsOf cX9_throwsOf 8 (some .int), .methodLink RX9 112 yX9_mirrored, .static yX9_mirrored, .code yX9_mirrored cX9_mirrored 5 (some .int), .methodLink RX9 109 yX9_has, .static yX9_has, .code yX9_has cX9_has 3 (some .boolean), .methodLink RX9 75 yX9_within, .static yX9_within, .code yX9_within cX9_within 3 (some .boolean), .methodLink RX9 114 yX9_turned, .static yX9_turned, .code yX9_turned cX9_turned 7 (some .int), .methodLink RX9 119 yX9_isBetween, .static yX9_isBetween, .code yX9_isBetween cX9_isBetween 6 (some .boolean), .methodLink RX9 116 yX9_isInner, .static yX9_isInner, .code yX9_isInner cX9_isInner 3 (some .boolean), .methodLink RX9 141 yX9_darkBut, .instanceMethod yX9_darkBut, .selects RX9 yX9_darkBut yX9_darkBut, .code yX9_darkBut cX9_darkBut 5 (some .long), .constantLong RX9 144 (-1)] : List Cond) ++ wsX90)
set_option maxRecDepth 20000 in
theorem g_m_single_m_shadowIn_137 : GoodIn w_m_single (wsV RX9 137 RX9 yX9_shadowIn w_m_shadowIn) := goodIn_r _ [1, 2, 3, 4, 5, 6, 7, 8, 9, 4, 10, 11, 12, 13, 14, 15, 16, 17, 18, 19, 20, 21, 22, 23, 24, 25, 26, 27, 28, 29, 30, 31, 32, 33, 34, 35, 41, 42, 43, 44, 45, 46, 47, 48, 49, 50, 51, 52, 53, 54, 55, 56, 57, 58, 59, 60, 61, 62, 63, 64, 65, 66, 67, 68] rfl (by decide +kernel)
set_option maxRecDepth 20000 in
theorem g_m_single_m_darkBut_141 : GoodIn w_m_single (wsV RX9 141 RX9 yX9_darkBut w_m_darkBut) := goodIn_r _ [36, 37, 38, 4, 39, 1, 2, 3, 4, 5, 6, 7, 8, 9, 10, 11, 12, 13, 14, 15, 16, 17, 18, 19, 20, 21, 22, 23, 24, 25, 26, 27, 28, 29, 30, 31, 32, 33, 34, 35, 41, 42, 43, 44, 45, 46, 47, 48, 49, 50, 51, 52, 53, 54, 55, 56, 57, 58, 59, 60, 61, 62, 63, 64, 65, 66, 67, 68] rfl (by decide +kernel)
set_option maxHeartbeats 4000000 in
set_option maxRecDepth 100000 in
theorem m_single (l : Launch) (dC : Nat → ClassId) (dI : Nat → Nat → Nat) (ad : Nat → Nat) (h0 : Nat) (a0 : Nat) (v1 : Value) (v2 : Value) (v3 : Value) (v4 : Value) (v5 : Value) (v6 : Value) (v7 : Value) (v8 : Value) (v9 : Value) (v10 : Value) (v11 : Value) (v12 : Value) (v13 : Value) (v14 : Value) (v15 : Value) (v16 : Value) (v17 : Value) (v18 : Value) (v19 : Value) (v20 : Value) (v21 : Value) (v22 : Value) (v23 : Value) (v24 : Value) (v25 : Value) (v26 : Value) (v27 : Value) (ac : ClassId) (nf : Nat → Int32) (hI : mI nf) : Met l yX9_single w_m_single ({ frames := 7, cells := 0, slots := 0, locals := 173 } : Room) (va_Pc [.ref h0] (preS dC dI ad [(ac, .int)] [(h0, .inr (7, [.ref a0, v1, v2, v3, v4, v5, v6, v7, v8, v9, v10, v11, v12, v13, v14, v15, v16, v17, v18, v19, v20, v21, v22, v23, v24, v25, v26, v27])), (a0, .inl (ac, 38, .inl nf))])) (vp_Sl (fun r => True)) 0 0 (fun _ => False) := by
  refine Met.ofW (cc := cX9_single) (maxL := 4) (ret := (some .long)) (by decide) rfl ?_
  intro p e s m args below meth c s₁ B hml hv
  obtain ⟨rfl, hP, hK, hev⟩ := hv
  have hx := B.exec
  have hb := B.bytes
  have hr := B.returns
  have hts := atoms_spec (ws := w_m_single) B.pre
  have hown : s.vm.findClass RX9 = some m.cls := findClass_of_methodNamed B.named
  have hlocks := B.notSynchronized
  have inX9 : ∀ w ∈ wsX90, w ∈ w_m_single := fun w h => List.mem_cons_of_mem _ (List.mem_append_right _ h)
  have hP : va_P (dC, dI) vwCl [(h0, .inr (7, [.ref a0, v1, v2, v3, v4, v5, v6, v7, v8, v9, v10, v11, v12, v13, v14, v15, v16, v17, v18, v19, v20, v21, v22, v23, v24, v25, v26, v27])), (a0, .inl (ac, 38, .inl nf))] s.heap := hP
  have hl := lv_entry ([.ref h0]) (n := 4) (Nat.le_of_ble_eq_true rfl)
  rw [lg_entry_eq]
  generalize (lg_sl ([.ref h0]) ++ List.replicate (4 - (lg_sl ([.ref h0])).length) Slot.unset).toArray = ls at hl ⊢
  have hl : lv_has ls 4 [(0, .ref h0)] := hl
  refine lv_lconst (v := 0) hx hb dX9_single_0 (by decide) ?_
  refine lv_lstore_n (lv' := [(1, .long 0), (0, .ref h0)]) hx hb dX9_single_1 rfl hl (by decide) rfl (fun ls hl => ?_)
  refine lv_iconst (v := 0) hx hb dX9_single_2 (by decide) ?_
  refine lv_istore_n (lv' := [(3, .int 0), (1, .long 0), (0, .ref h0)]) hx hb dX9_single_3 rfl hl (by decide) rfl (fun ls hl => ?_)
  refine pp_loop (ι := Int32 × Int64) (fun ⟨v3_4, v1_4⟩ => (4 - v3_4.toInt).toNat) (fun ⟨v3_4, v1_4⟩ H locs ls => (0 ≤ v3_4.toInt) ∧ (v3_4.toInt ≤ 4) ∧ H = s.heap ∧ locs = [] ∧ lv_has ls 4 [(3, .int v3_4), (1, .long v1_4), (0, .ref h0)]) ?_ (0, 0) _ _ _ ⟨(by first | omega | decide | (simp only [fa_lt, fa_le, fa_eq, and_true, true_and, and_false, false_and, not_true_eq_false, not_false_eq_true, li_0, li_1, li_2, li_3, li_4, li_5, li_6, li_7, li_8, li_9, li_10, li_12, li_15, li_16, li_20, li_30, li_34, li_38, li_40, li_63, li_64, li_65, li_78, li_120, li_1000, li_4000, li_10000, li_11077, li_255, li_65535, li_m1, li_m2, li_m1000000001, li_m1000000002, li_m1000000003, li_m1000000004, li_m1000000005, li_m1000000006, li_m1000000007, or_true, true_or, or_false, false_or, implies_true, true_implies, false_implies] <;> omega)), (by first | omega | decide | (simp only [fa_lt, fa_le, fa_eq, and_true, true_and, and_false, false_and, not_true_eq_false, not_false_eq_true, li_0, li_1, li_2, li_3, li_4, li_5, li_6, li_7, li_8, li_9, li_10, li_12, li_15, li_16, li_20, li_30, li_34, li_38, li_40, li_63, li_64, li_65, li_78, li_120, li_1000, li_4000, li_10000, li_11077, li_255, li_65535, li_m1, li_m2, li_m1000000001, li_m1000000002, li_m1000000003, li_m1000000004, li_m1000000005, li_m1000000006, li_m1000000007, or_true, true_or, or_false, false_or, implies_true, true_implies, false_implies] <;> omega)), rfl, rfl, lv_sub hl [0, 1, 2] rfl⟩
  intro k_1 ihk_1 u H locs ls hm hI
  obtain ⟨v3_4, v1_4⟩ := u
  obtain ⟨jk_1_0, jk_1_1, rfl, rfl, hl⟩ := hI
  have hmk_1 : (4 - v3_4.toInt).toNat < k_1 + 1 := hm
  clear hm
  have jk_1_0 : 0 ≤ v3_4.toInt := jk_1_0
  have jk_1_1 : v3_4.toInt ≤ 4 := jk_1_1
  have hl : lv_has ls 4 [(3, .int v3_4), (1, .long v1_4), (0, .ref h0)] := hl
  refine lv_iload_n hx hb dX9_single_4 rfl (lv_at hl 0 rfl) ?_
  refine lv_iconst (v := 4) hx hb dX9_single_5 (by decide) ?_
  refine lv_icmp_ge (tgt := 33) hx hb dX9_single_6 (by decide) (fun c_2 => ?_) (fun c_2 => ?_)
  · skip
    have tc_2 : 4 ≤ v3_4.toInt := (fa_le _ _).mp c_2
    refine lv_lload_n hx hb dX9_single_33 rfl (lv_at hl 1 rfl) ?_
    exact W.lret (v := v1_4) hx hb hr (fun t ht hW => ⟨v1_4, rfl, trivial, ht⟩) (fun _ h => absurd h List.not_mem_nil) dX9_single_34
  · skip
    have tc_2 : ¬ 4 ≤ v3_4.toInt := fun h => c_2 ((fa_le _ _).mpr h)
    refine lv_lload_n hx hb dX9_single_9 rfl (lv_at hl 1 rfl) ?_
    refine lv_aload_n hx hb dX9_single_10 rfl (lv_at hl 2 rfl) ?_
    refine lv_iload_n hx hb dX9_single_11 rfl (lv_at hl 0 rfl) ?_
    have hPc := hP.sub (ws' := [(h0, .inr (7, [.ref a0, v1, v2, v3, v4, v5, v6, v7, v8, v9, v10, v11, v12, v13, v14, v15, v16, v17, v18, v19, v20, v21, v22, v23, v24, v25, v26, v27])), (a0, .inl (ac, 38, .inl nf))]) [0, 1] rfl
    have hKc := hK.sub (tys' := [(ac, .int)]) [0] rfl
    refine vp_callSl (W.runV (As := [.int v3_4]) (rest := [.long v1_4]) ⟨hx, hb, hml, hown, hts⟩ (m_shadowIn l dC dI ad h0 v3_4 a0 v1 v2 v3 v4 v5 v6 v7 v8 v9 v10 v11 v12 v13 v14 v15 v16 v17 v18 v19 v20 v21 v22 v23 v24 v25 v26 v27 ac nf hI (by first | omega | decide | (simp only [fa_lt, fa_le, fa_eq, and_true, true_and, and_false, false_and, not_true_eq_false, not_false_eq_true, li_0, li_1, li_2, li_3, li_4, li_5, li_6, li_7, li_8, li_9, li_10, li_12, li_15, li_16, li_20, li_30, li_34, li_38, li_40, li_63, li_64, li_65, li_78, li_120, li_1000, li_4000, li_10000, li_11077, li_255, li_65535, li_m1, li_m2, li_m1000000001, li_m1000000002, li_m1000000003, li_m1000000004, li_m1000000005, li_m1000000006, li_m1000000007, or_true, true_or, or_false, false_or, implies_true, true_implies, false_implies] <;> omega))) (cwV 1 hts g_m_single_m_shadowIn_137 rfl rfl rfl (by decide +kernel) ⟨(Nat.le_of_ble_eq_true rfl), (Nat.le_of_ble_eq_true rfl)⟩) ⟨preS_blind, va_recv hKc hPc (ci := 7) (q0 := 0) rfl rfl, fun U hU hW => ⟨rfl, preS_at hU hW hPc hKc hev⟩⟩ rfl rfl hl.1 rfl (lv_room (Nat.le_of_ble_eq_true rfl)) dX9_single_12 ⟨(Nat.le_of_ble_eq_true rfl), (Nat.le_of_ble_eq_true rfl)⟩) (fun r_3 hw => ?_)
    refine lv_aload_n hx hb dX9_single_15 rfl (lv_at hl 2 rfl) ?_
    refine lv_iload_n hx hb dX9_single_16 rfl (lv_at hl 0 rfl) ?_
    have hPc := hP.sub (ws' := [(h0, .inr (7, [.ref a0, v1, v2, v3, v4, v5, v6, v7, v8, v9, v10, v11, v12, v13, v14, v15, v16, v17, v18, v19, v20, v21, v22, v23, v24, v25, v26, v27])), (a0, .inl (ac, 38, .inl nf))]) [0, 1] rfl
    have hKc := hK.sub (tys' := [(ac, .int)]) [0] rfl
    refine vp_callSl (W.runV (As := [.int v3_4]) (rest := [.long r_3, .long v1_4]) ⟨hx, hb, hml, hown, hts⟩ (m_darkBut l dC dI ad h0 v3_4 a0 v1 v2 v3 v4 v5 v6 v7 v8 v9 v10 v11 v12 v13 v14 v15 v16 v17 v18 v19 v20 v21 v22 v23 v24 v25 v26 v27 ac nf hI) (cwV 1 hts g_m_single_m_darkBut_141 rfl rfl rfl (by decide +kernel) ⟨(Nat.le_of_ble_eq_true rfl), (Nat.le_of_ble_eq_true rfl)⟩) ⟨preS_blind, va_recv hKc hPc (ci := 7) (q0 := 0) rfl rfl, fun U hU hW => ⟨rfl, preS_at hU hW hPc hKc hev⟩⟩ rfl rfl hl.1 rfl (lv_room (Nat.le_of_ble_eq_true rfl)) dX9_single_17 ⟨(Nat.le_of_ble_eq_true rfl), (Nat.le_of_ble_eq_true rfl)⟩) (fun r_4 hw => ?_)
    refine lv_ldc2 hx hb hown (hts _ (List.mem_of_getElem? (i := 40) rfl)) dX9_single_20 ?_
    refine lv_lxor hx hb dX9_single_23 ?_
    refine lv_topl (fun n_5 en_5 => ?_)
    clear en_5
    refine lv_land hx hb dX9_single_24 ?_
    refine lv_topl (fun n_6 en_6 => ?_)
    clear en_6
    refine lv_lor hx hb dX9_single_25 ?_
    refine lv_topl (fun n_7 en_7 => ?_)
    clear en_7
    refine lv_lstore_n (lv' := [(1, .long n_7), (3, .int v3_4), (0, .ref h0)]) hx hb dX9_single_26 rfl hl (by decide) rfl (fun ls hl => ?_)
    obtain ⟨n_8, en_8⟩ : ∃ y : Int32, y = v3_4 + 1 := ⟨_, rfl⟩
    have tn_8 : n_8.toInt = v3_4.toInt + 1 := pp_add en_8 rfl rfl (by omega) (by omega)
    refine lv_iinc (v := n_8) (lv' := [(3, .int n_8), (1, .long n_7), (0, .ref h0)]) hx hb dX9_single_27 hl (k := 1) rfl (by rw [en_8]; rfl) (by decide) rfl (fun ls hl => ?_)
    clear en_8
    refine lv_goto (tgt := 4) hx hb dX9_single_30 (by decide) ?_
    exact ihk_1 (n_8, n_7) _ _ _ (by show (4 - n_8.toInt).toNat < k_1; omega) ⟨(by first | omega | decide | (simp only [fa_lt, fa_le, fa_eq, and_true, true_and, and_false, false_and, not_true_eq_false, not_false_eq_true, li_0, li_1, li_2, li_3, li_4, li_5, li_6, li_7, li_8, li_9, li_10, li_12, li_15, li_16, li_20, li_30, li_34, li_38, li_40, li_63, li_64, li_65, li_78, li_120, li_1000, li_4000, li_10000, li_11077, li_255, li_65535, li_m1, li_m2, li_m1000000001, li_m1000000002, li_m1000000003, li_m1000000004, li_m1000000005, li_m1000000006, li_m1000000007, or_true, true_or, or_false, false_or, implies_true, true_implies, false_implies] <;> omega)), (by first | omega | decide | (simp only [fa_lt, fa_le, fa_eq, and_true, true_and, and_false, false_and, not_true_eq_false, not_false_eq_true, li_0, li_1, li_2, li_3, li_4, li_5, li_6, li_7, li_8, li_9, li_10, li_12, li_15, li_16, li_20, li_30, li_34, li_38, li_40, li_63, li_64, li_65, li_78, li_120, li_1000, li_4000, li_10000, li_11077, li_255, li_65535, li_m1, li_m2, li_m1000000001, li_m1000000002, li_m1000000003, li_m1000000004, li_m1000000005, li_m1000000006, li_m1000000007, or_true, true_or, or_false, false_or, implies_true, true_implies, false_implies] <;> omega)), rfl, rfl, lv_sub hl [0, 1, 2] rfl⟩

def w_m_spare : List Cond := .code yX9_spare cX9_spare 5 (some .int) :: (([.methodLink RX9 146 yX9_dark, .instanceMethod yX9_dark, .selects RX9 yX9_dark yX9_dark, .initialized RX9, .code yX9_dark cX9_dark 1 (some .long), .methodLink RX9 141 yX9_darkBut, .instanceMethod yX9_darkBut, .selects RX9 yX9_darkBut yX9_darkBut, .code yX9_darkBut cX9_darkBut 5 (some .long), .methodLink RX9 137 yX9_shadowIn, .instanceMethod yX9_shadowIn, .selects RX9 yX9_shadowIn yX9_shadowIn, .code yX9_shadowIn cX9_shadowIn 3 (some .long), .fieldLink RX9 9 "LampShapesModel" "now" "[I", .methodLink RX9 99 yX9_shapeIs, .instanceMethod yX9_shapeIs, .selects RX9 yX9_shapeIs yX9_shapeIs, .code yX9_shapeIs cX9_shapeIs 3 (some .int), .methodLink RX9 129 yX9_shadowOf, .instanceMethod yX9_shadowOf, .selects RX9 yX9_shadowOf yX9_shadowOf, .code yX9_shadowOf cX9_shadowOf 11 (some .long), .methodLink RX9 122 yX9_throwsOf, .static yX9_throwsOf, .code yX9_throwsOf cX9_throwsOf 8 (some .int), .methodLink RX9 112 yX9_mirrored, .static yX9_mirrored, .code yX9_mirrored cX9_mirrored 5 (some .int), .methodLink RX9 109 yX9_has, .static yX9_has, .code yX9_has cX9_has 3 (some .boolean), .methodLink RX9 75 yX9_within, .static yX9_within, .code yX9_within cX9_within 3 (some .boolean), .methodLink RX9 114 yX9_turned, .static yX9_turned, .code yX9_turned cX9_turned 7 (some .int), .methodLink RX9 119 yX9_isBetween, .static yX9_isBetween, .code yX9_isBetween cX9_isBetween 6 (some .boolean), .methodLink RX9 116 yX9_isInner, .static yX9_isInner, .code yX9_isInner cX9_isInner 3 (some .boolean), .constant RX9 150 (-1000000004), .methodLink RX9 84 yX9_finding, .instanceMethod yX9_finding, .selects RX9 yX9_finding yX9_finding, .code yX9_finding cX9_finding 2 (some .int), .fieldLink RX9 23 "LampShapesModel" "found" "[I", .constant RX9 74 (-1000000001), .methodLink RX9 96 yX9_holdOf, .instanceMethod yX9_holdOf, .selects RX9 yX9_holdOf yX9_holdOf, .code yX9_holdOf cX9_holdOf 4 (some .int)] : List Cond) ++ wsX90)
set_option maxRecDepth 20000 in
theorem g_m_spare_m_dark_146 : GoodIn w_m_spare (wsV RX9 146 RX9 yX9_dark w_m_dark) := goodIn_r _ [1, 2, 3, 4, 5, 6, 7, 8, 4, 9, 10, 11, 12, 13, 14, 15, 16, 17, 18, 19, 20, 21, 22, 23, 24, 25, 26, 27, 28, 29, 30, 31, 32, 33, 34, 35, 36, 37, 38, 39, 40, 41, 42, 43, 55, 56, 57, 58, 59, 60, 61, 62, 63, 64, 65, 66, 67, 68, 69, 70, 71, 72, 73, 74, 75, 76, 77, 78, 79, 80, 81, 82] rfl (by decide +kernel)
set_option maxRecDepth 20000 in
theorem g_m_spare_mf_none_84 : GoodIn w_m_spare (wsV RX9 84 RX9 yX9_finding w_mf_none) := goodIn_r _ [45, 46, 47, 4, 48, 49, 50, 55, 56, 57, 58, 59, 60, 61, 62, 63, 64, 65, 66, 67, 68, 69, 70, 71, 72, 73, 74, 75, 76, 77, 78, 79, 80, 81, 82] rfl (by decide +kernel)
set_option maxRecDepth 20000 in
theorem g_m_spare_m_holdOf_96 : GoodIn w_m_spare (wsV RX9 96 RX9 yX9_holdOf w_m_holdOf) := goodIn_r _ [51, 52, 53, 4, 54, 14, 55, 56, 57, 58, 59, 60, 61, 62, 63, 64, 65, 66, 67, 68, 69, 70, 71, 72, 73, 74, 75, 76, 77, 78, 79, 80, 81, 82] rfl (by decide +kernel)
set_option maxRecDepth 20000 in
theorem g_m_spare_m_shapeIs_99 : GoodIn w_m_spare (wsV RX9 99 RX9 yX9_shapeIs w_m_shapeIs) := goodIn_r _ [15, 16, 17, 4, 18, 14, 55, 56, 57, 58, 59, 60, 61, 62, 63, 64, 65, 66, 67, 68, 69, 70, 71, 72, 73, 74, 75, 76, 77, 78, 79, 80, 81, 82] rfl (by decide +kernel)
set_option maxRecDepth 20000 in
theorem g_m_spare_m_darkBut_141 : GoodIn w_m_spare (wsV RX9 141 RX9 yX9_darkBut w_m_darkBut) := goodIn_r _ [6, 7, 8, 4, 9, 10, 11, 12, 4, 13, 14, 15, 16, 17, 18, 19, 20, 21, 22, 23, 24, 25, 26, 27, 28, 29, 30, 31, 32, 33, 34, 35, 36, 37, 38, 39, 40, 41, 42, 43, 55, 56, 57, 58, 59, 60, 61, 62, 63, 64, 65, 66, 67, 68, 69, 70, 71, 72, 73, 74, 75, 76, 77, 78, 79, 80, 81, 82] rfl (by decide +kernel)
set_option maxHeartbeats 4000000 in
set_option maxRecDepth 100000 in
theorem m_spare (l : Launch) (dC : Nat → ClassId) (dI : Nat → Nat → Nat) (ad : Nat → Nat) (h0 : Nat) (a0 : Nat) (v1 : Value) (v2 : Value) (v3 : Value) (v4 : Value) (t0 : Nat) (v6 : Value) (v7 : Value) (v8 : Value) (v9 : Value) (v10 : Value) (v11 : Value) (v12 : Value) (v13 : Value) (v14 : Value) (v15 : Value) (v16 : Value) (v17 : Value) (v18 : Value) (v19 : Value) (v20 : Value) (v21 : Value) (v22 : Value) (v23 : Value) (v24 : Value) (v25 : Value) (v26 : Value) (v27 : Value) (tc : ClassId) (tf : Nat → Int32) (ac : ClassId) (nf : Nat → Int32) (sz : Nat) (hI : mI nf) : Met l yX9_spare w_m_spare ({ frames := 8, cells := 0, slots := 0, locals := 193 } : Room) (va_Pc [.ref h0] (preM dC dI ad [(tc, .int), (ac, .int)] [(h0, .inr (7, [.ref a0, v1, v2, v3, v4, .ref t0, v6, v7, v8, v9, v10, v11, v12, v13, v14, v15, v16, v17, v18, v19, v20, v21, v22, v23, v24, v25, v26, v27])), (t0, .inl (tc, 8, .inl tf)), (a0, .inl (ac, 38, .inl nf))] sz)) (va_Qi (fun (r : Int32) (_ : Unit) => True) (fun _ t => ∃ (tg : Nat → Int32), va_P (dC, dI) vwCl [(h0, .inr (7, [.ref a0, v1, v2, v3, v4, .ref t0, v6, v7, v8, v9, v10, v11, v12, v13, v14, v15, v16, v17, v18, v19, v20, v21, v22, v23, v24, v25, v26, v27])), (t0, .inl (tc, 8, .inl tg)), (a0, .inl (ac, 38, .inl nf))] t.heap ∧ va_K (dC, dI) vwCl [(tc, .int), (ac, .int)] t ∧ va_D (va_A [(h0, .inr (7, [.ref a0, v1, v2, v3, v4, .ref t0, v6, v7, v8, v9, v10, v11, v12, v13, v14, v15, v16, v17, v18, v19, v20, v21, v22, v23, v24, v25, v26, v27])), (t0, .inl (tc, 8, .inl tf)), (a0, .inl (ac, 38, .inl nf))] sz) [(h0, .inr (7, [.ref a0, v1, v2, v3, v4, .ref t0, v6, v7, v8, v9, v10, v11, v12, v13, v14, v15, v16, v17, v18, v19, v20, v21, v22, v23, v24, v25, v26, v27])), (t0, .inl (tc, 8, .inl tg)), (a0, .inl (ac, 38, .inl nf))]) (va_A [(h0, .inr (7, [.ref a0, v1, v2, v3, v4, .ref t0, v6, v7, v8, v9, v10, v11, v12, v13, v14, v15, v16, v17, v18, v19, v20, v21, v22, v23, v24, v25, v26, v27])), (t0, .inl (tc, 8, .inl tf)), (a0, .inl (ac, 38, .inl nf))] sz)) 0 0 (va_A [(h0, .inr (7, [.ref a0, v1, v2, v3, v4, .ref t0, v6, v7, v8, v9, v10, v11, v12, v13, v14, v15, v16, v17, v18, v19, v20, v21, v22, v23, v24, v25, v26, v27])), (t0, .inl (tc, 8, .inl tf)), (a0, .inl (ac, 38, .inl nf))] sz) := by
  refine Met.ofW (cc := cX9_spare) (maxL := 5) (ret := (some .int)) (by decide) rfl ?_
  intro p e s m args below meth c s₁ B hml hv
  obtain ⟨rfl, hsz, hP, hK, hD0, hev⟩ := hv
  have hx := B.exec
  have hb := B.bytes
  have hr := B.returns
  have hts := atoms_spec (ws := w_m_spare) B.pre
  have hown : s.vm.findClass RX9 = some m.cls := findClass_of_methodNamed B.named
  have hlocks := B.notSynchronized
  have inX9 : ∀ w ∈ wsX90, w ∈ w_m_spare := fun w h => List.mem_cons_of_mem _ (List.mem_append_right _ h)
  subst hsz
  have hD := hD0.self (sz := s.heap.size)
  generalize hAe : va_A [(h0, .inr (7, [.ref a0, v1, v2, v3, v4, .ref t0, v6, v7, v8, v9, v10, v11, v12, v13, v14, v15, v16, v17, v18, v19, v20, v21, v22, v23, v24, v25, v26, v27])), (t0, .inl (tc, 8, .inl tf)), (a0, .inl (ac, 38, .inl nf))] s.heap.size = A at hD ⊢
  have hA : ∀ q : Nat, s.heap.size ≤ q → A q := fun q h => by rw [← hAe]; exact Or.inr h
  have hS : va_S A s.heap s.heap [] := va_S.rf
  have hP : va_P (dC, dI) vwCl [(h0, .inr (7, [.ref a0, v1, v2, v3, v4, .ref t0, v6, v7, v8, v9, v10, v11, v12, v13, v14, v15, v16, v17, v18, v19, v20, v21, v22, v23, v24, v25, v26, v27])), (t0, .inl (tc, 8, .inl tf)), (a0, .inl (ac, 38, .inl nf))] s.heap := hP
  have hl := lv_entry ([.ref h0]) (n := 5) (Nat.le_of_ble_eq_true rfl)
  rw [lg_entry_eq]
  generalize (lg_sl ([.ref h0]) ++ List.replicate (5 - (lg_sl ([.ref h0])).length) Slot.unset).toArray = ls at hl ⊢
  have hl : lv_has ls 5 [(0, .ref h0)] := hl
  refine lv_aload_n hx hb dX9_spare_0 rfl (lv_at hl 0 rfl) ?_
  have hPc := hP.sub (ws' := [(h0, .inr (7, [.ref a0, v1, v2, v3, v4, .ref t0, v6, v7, v8, v9, v10, v11, v12, v13, v14, v15, v16, v17, v18, v19, v20, v21, v22, v23, v24, v25, v26, v27])), (a0, .inl (ac, 38, .inl nf))]) [0, 2] rfl
  have hKc := hK.sub (tys' := [(ac, .int)]) [1] rfl
  refine vp_callSl (W.runV (As := []) (rest := []) ⟨hx, hb, hml, hown, hts⟩ (m_dark l dC dI ad h0 a0 v1 v2 v3 v4 (.ref t0) v6 v7 v8 v9 v10 v11 v12 v13 v14 v15 v16 v17 v18 v19 v20 v21 v22 v23 v24 v25 v26 v27 ac nf hI) (cwV 0 hts g_m_spare_m_dark_146 rfl rfl rfl (by decide +kernel) ⟨(Nat.le_of_ble_eq_true rfl), (Nat.le_of_ble_eq_true rfl)⟩) ⟨preS_blind, va_recv hKc hPc (ci := 7) (q0 := 0) rfl rfl, fun U hU hW => ⟨rfl, preS_at hU hW hPc hKc hev⟩⟩ rfl rfl hl.1 rfl (lv_room (Nat.le_of_ble_eq_true rfl)) dX9_spare_1 ⟨(Nat.le_of_ble_eq_true rfl), (Nat.le_of_ble_eq_true rfl)⟩) (fun r_1 hw => ?_)
  refine lv_lstore_n (lv' := [(1, .long r_1), (0, .ref h0)]) hx hb dX9_spare_4 rfl hl (by decide) rfl (fun ls hl => ?_)
  refine lv_iconst (v := 0) hx hb dX9_spare_5 (by decide) ?_
  refine lv_istore_n (lv' := [(3, .int 0), (1, .long r_1), (0, .ref h0)]) hx hb dX9_spare_6 rfl hl (by decide) rfl (fun ls hl => ?_)
  refine pp_loop (ι := Int32) (fun v3_7 => ((nf 0).toInt - v3_7.toInt).toNat) (fun v3_7 H locs ls => (0 ≤ v3_7.toInt) ∧ va_P (dC, dI) vwCl [(h0, .inr (7, [.ref a0, v1, v2, v3, v4, .ref t0, v6, v7, v8, v9, v10, v11, v12, v13, v14, v15, v16, v17, v18, v19, v20, v21, v22, v23, v24, v25, v26, v27])), (t0, .inl (tc, 8, .inl tf)), (a0, .inl (ac, 38, .inl nf))] H ∧ va_D A [(h0, .inr (7, [.ref a0, v1, v2, v3, v4, .ref t0, v6, v7, v8, v9, v10, v11, v12, v13, v14, v15, v16, v17, v18, v19, v20, v21, v22, v23, v24, v25, v26, v27])), (t0, .inl (tc, 8, .inl tf)), (a0, .inl (ac, 38, .inl nf))] ∧ va_S A s.heap H locs ∧ lv_has ls 5 [(3, .int v3_7), (1, .long r_1), (0, .ref h0)]) ?_ 0 _ _ _ ⟨(by first | omega | decide | (simp only [fa_lt, fa_le, fa_eq, and_true, true_and, and_false, false_and, not_true_eq_false, not_false_eq_true, li_0, li_1, li_2, li_3, li_4, li_5, li_6, li_7, li_8, li_9, li_10, li_12, li_15, li_16, li_20, li_30, li_34, li_38, li_40, li_63, li_64, li_65, li_78, li_120, li_1000, li_4000, li_10000, li_11077, li_255, li_65535, li_m1, li_m2, li_m1000000001, li_m1000000002, li_m1000000003, li_m1000000004, li_m1000000005, li_m1000000006, li_m1000000007, or_true, true_or, or_false, false_or, implies_true, true_implies, false_implies] <;> omega)), hP.sub [0, 1, 2] rfl, hD.sub [0, 1, 2] (by decide) rfl, hS, lv_sub hl [0, 1, 2] rfl⟩
  intro k_2 ihk_2 u H locs ls hm hI
  obtain ⟨v3_7, rfl⟩ : ∃ z, z = u := ⟨_, rfl⟩
  obtain ⟨jk_2_0, hP, hD, hS, hl⟩ := hI
  have hmk_2 : ((nf 0).toInt - v3_7.toInt).toNat < k_2 + 1 := hm
  clear hm
  have jk_2_0 : 0 ≤ v3_7.toInt := jk_2_0
  have hl : lv_has ls 5 [(3, .int v3_7), (1, .long r_1), (0, .ref h0)] := hl
  have hP : va_P (dC, dI) vwCl [(h0, .inr (7, [.ref a0, v1, v2, v3, v4, .ref t0, v6, v7, v8, v9, v10, v11, v12, v13, v14, v15, v16, v17, v18, v19, v20, v21, v22, v23, v24, v25, v26, v27])), (t0, .inl (tc, 8, .inl tf)), (a0, .inl (ac, 38, .inl nf))] H := hP
  have hD : va_D A [(h0, .inr (7, [.ref a0, v1, v2, v3, v4, .ref t0, v6, v7, v8, v9, v10, v11, v12, v13, v14, v15, v16, v17, v18, v19, v20, v21, v22, v23, v24, v25, v26, v27])), (t0, .inl (tc, 8, .inl tf)), (a0, .inl (ac, 38, .inl nf))] := hD
  refine lv_iload_n hx hb dX9_spare_7 rfl (lv_at hl 0 rfl) ?_
  refine lv_aload_n hx hb dX9_spare_8 rfl (lv_at hl 2 rfl) ?_
  refine va_get (D := (dC, dI)) (ci := 7) (v := .ref a0) (C := RX9) (T := TX9) (N := 28) hx hb hts inX9 hown hK hP 0 rfl rfl 0 (by decide) (hts _ (List.mem_of_getElem? (i := 14) rfl)) (fun _ h9 => h9) rfl dX9_spare_9 ?_
  refine lv_iconst (v := 0) hx hb dX9_spare_12 (by decide) ?_
  refine va_iald hx hb hK hP 2 1 rfl rfl (vp_in_nI (n := 0) (by decide) (by decide)) dX9_spare_13 ?_
  refine pp_ti (y := nf 0) rfl ?_
  refine lv_topi (fun n_3 en_3 => ?_)
  have tn_3 : n_3.toInt = (nf 0).toInt ∧ 0 ≤ n_3.toInt ∧ n_3.toInt ≤ 9 := mI_r0 hI en_3
  clear en_3
  have rc_4_x := pp_rng v3_7
  have rc_4_y := pp_rng n_3
  refine lv_icmp_ge (tgt := 57) hx hb dX9_spare_14 (by decide) (fun c_4 => ?_) (fun c_4 => ?_)
  · skip
    have tc_4 : n_3.toInt ≤ v3_7.toInt := (fa_le _ _).mp c_4
    refine lv_aload_n hx hb dX9_spare_57 rfl (lv_at hl 2 rfl) ?_
    refine lv_ldc hx hb hown (hts _ (List.mem_of_getElem? (i := 44) rfl)) dX9_spare_58 ?_
    have hPc := hP.sub (ws' := [(h0, .inr (7, [.ref a0, v1, v2, v3, v4, .ref t0, v6, v7, v8, v9, v10, v11, v12, v13, v14, v15, v16, v17, v18, v19, v20, v21, v22, v23, v24, v25, v26, v27])), (t0, .inl (tc, 8, .inl tf))]) [0, 1] rfl
    have hKc := hK.sub (tys' := [(tc, .int)]) [0] rfl
    have hDc := hD.sub (ws' := [(h0, .inr (7, [.ref a0, v1, v2, v3, v4, .ref t0, v6, v7, v8, v9, v10, v11, v12, v13, v14, v15, v16, v17, v18, v19, v20, v21, v22, v23, v24, v25, v26, v27])), (t0, .inl (tc, 8, .inl tf))]) [0, 1] (by decide) rfl
    have hFc := va_free (wc := [(h0, .inr (7, [.ref a0, v1, v2, v3, v4, .ref t0, v6, v7, v8, v9, v10, v11, v12, v13, v14, v15, v16, v17, v18, v19, v20, v21, v22, v23, v24, v25, v26, v27])), (t0, .inl (tc, 8, .inl tf))]) hD hS hA [0, 1] rfl
    refine va_calli (va_runV (As := [.int (-1000000004)]) (rest := []) ⟨hx, hb, hml, hown, hts⟩ (mf_none l dC dI ad h0 (.ref a0) v1 v2 v3 v4 t0 v6 v7 v8 v9 v10 v11 v12 v13 v14 v15 v16 v17 v18 v19 v20 v21 v22 v23 v24 v25 v26 v27 tc tf H.size ) (cwV 1 hts g_m_spare_mf_none_84 rfl rfl rfl (by decide +kernel) ⟨(Nat.le_of_ble_eq_true rfl), (Nat.le_of_ble_eq_true rfl)⟩) ⟨preM_blind, va_recv hKc hPc (ci := 7) (q0 := 0) rfl rfl, fun U hU hW => ⟨rfl, preM_at hU hW hPc hKc hDc hev⟩⟩ rfl rfl hl.1 rfl (lv_room (Nat.le_of_ble_eq_true rfl)) dX9_spare_60 ⟨(Nat.le_of_ble_eq_true rfl), (Nat.le_of_ble_eq_true rfl)⟩) hS (fun q _ h => hFc q h) hFc (fun r_5 u t H1 locs ht hvm hw hB hz1 hk1 hS => ?_)
    obtain ⟨tg_6, hP1, hK1, hD1⟩ := hB
    rw [ht] at hP1
    have hK1 := va_K.moved hvm.symm hK1
    obtain ⟨hP, hD⟩ := va_join (wr := [(a0, .inl (ac, 38, .inl nf))]) (w1 := [(h0, .inr (7, [.ref a0, v1, v2, v3, v4, .ref t0, v6, v7, v8, v9, v10, v11, v12, v13, v14, v15, v16, v17, v18, v19, v20, v21, v22, v23, v24, v25, v26, v27])), (t0, .inl (tc, 8, .inl tg_6))]) hP hD [0, 1] [2] rfl rfl (by decide) (by decide) hk1 hFc hP1 hD1
    generalize H1 = H at hP hS ⊢
    have hP : va_P (dC, dI) vwCl [(a0, .inl (ac, 38, .inl nf)), (h0, .inr (7, [.ref a0, v1, v2, v3, v4, .ref t0, v6, v7, v8, v9, v10, v11, v12, v13, v14, v15, v16, v17, v18, v19, v20, v21, v22, v23, v24, v25, v26, v27])), (t0, .inl (tc, 8, .inl tg_6))] H := hP
    have hD : va_D A [(a0, .inl (ac, 38, .inl nf)), (h0, .inr (7, [.ref a0, v1, v2, v3, v4, .ref t0, v6, v7, v8, v9, v10, v11, v12, v13, v14, v15, v16, v17, v18, v19, v20, v21, v22, v23, v24, v25, v26, v27])), (t0, .inl (tc, 8, .inl tg_6))] := hD
    subst hw
    have hP9 := hP.sub (ws' := [(h0, .inr (7, [.ref a0, v1, v2, v3, v4, .ref t0, v6, v7, v8, v9, v10, v11, v12, v13, v14, v15, v16, v17, v18, v19, v20, v21, v22, v23, v24, v25, v26, v27])), (t0, .inl (tc, 8, .inl tg_6)), (a0, .inl (ac, 38, .inl nf))]) [1, 2, 0] rfl
    have hD9 := hD.sub (ws' := [(h0, .inr (7, [.ref a0, v1, v2, v3, v4, .ref t0, v6, v7, v8, v9, v10, v11, v12, v13, v14, v15, v16, v17, v18, v19, v20, v21, v22, v23, v24, v25, v26, v27])), (t0, .inl (tc, 8, .inl tg_6)), (a0, .inl (ac, 38, .inl nf))]) [1, 2, 0] (by decide) rfl
    have hK9 := hK.sub (tys' := [(tc, .int), (ac, .int)]) [0, 1] rfl
    exact W.iret (v := ((-1000000004) : Int32)) hx hb hr (fun t ht hW => ⟨⟨((-1000000004) : Int32), (), rfl, trivial, tg_6, by rw [ht]; exact hP9, va_K.moved hW.alike hK9, hD9⟩, hS.F ht⟩) hS.2.2 dX9_spare_63
  · skip
    have tc_4 : ¬ n_3.toInt ≤ v3_7.toInt := fun h => c_4 ((fa_le _ _).mpr h)
    refine lv_aload_n hx hb dX9_spare_17 rfl (lv_at hl 2 rfl) ?_
    refine lv_iload_n hx hb dX9_spare_18 rfl (lv_at hl 0 rfl) ?_
    have hPc := hP.sub (ws' := [(h0, .inr (7, [.ref a0, v1, v2, v3, v4, .ref t0, v6, v7, v8, v9, v10, v11, v12, v13, v14, v15, v16, v17, v18, v19, v20, v21, v22, v23, v24, v25, v26, v27])), (a0, .inl (ac, 38, .inl nf))]) [0, 2] rfl
    have hKc := hK.sub (tys' := [(ac, .int)]) [1] rfl
    refine vp_callSi (W.runV (As := [.int v3_7]) (rest := []) ⟨hx, hb, hml, hown, hts⟩ (m_holdOf l dC dI ad h0 v3_7 a0 v1 v2 v3 v4 (.ref t0) v6 v7 v8 v9 v10 v11 v12 v13 v14 v15 v16 v17 v18 v19 v20 v21 v22 v23 v24 v25 v26 v27 ac nf hI) (cwV 1 hts g_m_spare_m_holdOf_96 rfl rfl rfl (by decide +kernel) ⟨(Nat.le_of_ble_eq_true rfl), (Nat.le_of_ble_eq_true rfl)⟩) ⟨preS_blind, va_recv hKc hPc (ci := 7) (q0 := 0) rfl rfl, fun U hU hW => ⟨rfl, preS_at hU hW hPc hKc hev⟩⟩ rfl rfl hl.1 rfl (lv_room (Nat.le_of_ble_eq_true rfl)) dX9_spare_19 ⟨(Nat.le_of_ble_eq_true rfl), (Nat.le_of_ble_eq_true rfl)⟩) (fun r_7 hw => ?_)
    have hr_7 : (-1) ≤ r_7.toInt ∧ r_7.toInt ≤ 3 ∧ ((0 ≤ r_7.toInt ∧ hF nf v3_7.toInt) ∨ (r_7.toInt = (-1) ∧ ¬ hF nf v3_7.toInt)) := hw
    refine lv_istore (lv' := [(4, .int r_7), (3, .int v3_7), (1, .long r_1), (0, .ref h0)]) hx hb dX9_spare_22 hl (by decide) rfl (fun ls hl => ?_)
    refine lv_iload hx hb dX9_spare_24 (lv_at hl 0 rfl) ?_
    refine lv_if_lt (tgt := 51) hx hb dX9_spare_26 (by decide) (fun c_8 => ?_) (fun c_8 => ?_)
    · skip
      have tc_8 : r_7.toInt < 0 := (fa_lt _ _).mp c_8
      obtain ⟨n_9, en_9⟩ : ∃ y : Int32, y = v3_7 + 1 := ⟨_, rfl⟩
      have tn_9 : n_9.toInt = v3_7.toInt + 1 := pp_add en_9 rfl rfl (by omega) (by omega)
      refine lv_iinc (v := n_9) (lv' := [(3, .int n_9), (4, .int r_7), (1, .long r_1), (0, .ref h0)]) hx hb dX9_spare_51 hl (k := 1) rfl (by rw [en_9]; rfl) (by decide) rfl (fun ls hl => ?_)
      clear en_9
      refine lv_goto (tgt := 7) hx hb dX9_spare_54 (by decide) ?_
      exact ihk_2 n_9 _ _ _ (by show ((nf 0).toInt - n_9.toInt).toNat < k_2; omega) ⟨(by first | omega | decide | (simp only [fa_lt, fa_le, fa_eq, and_true, true_and, and_false, false_and, not_true_eq_false, not_false_eq_true, li_0, li_1, li_2, li_3, li_4, li_5, li_6, li_7, li_8, li_9, li_10, li_12, li_15, li_16, li_20, li_30, li_34, li_38, li_40, li_63, li_64, li_65, li_78, li_120, li_1000, li_4000, li_10000, li_11077, li_255, li_65535, li_m1, li_m2, li_m1000000001, li_m1000000002, li_m1000000003, li_m1000000004, li_m1000000005, li_m1000000006, li_m1000000007, or_true, true_or, or_false, false_or, implies_true, true_implies, false_implies] <;> omega)), hP.sub [0, 1, 2] rfl, hD.sub [0, 1, 2] (by decide) rfl, hS, lv_sub hl [0, 2, 3] rfl⟩
    · skip
      have tc_8 : ¬ r_7.toInt < 0 := fun h => c_8 ((fa_lt _ _).mpr h)
      refine lv_aload_n hx hb dX9_spare_29 rfl (lv_at hl 3 rfl) ?_
      refine lv_iload_n hx hb dX9_spare_30 rfl (lv_at hl 1 rfl) ?_
      refine lv_iconst (v := 2) hx hb dX9_spare_31 (by decide) ?_
      have hPc := hP.sub (ws' := [(h0, .inr (7, [.ref a0, v1, v2, v3, v4, .ref t0, v6, v7, v8, v9, v10, v11, v12, v13, v14, v15, v16, v17, v18, v19, v20, v21, v22, v23, v24, v25, v26, v27])), (a0, .inl (ac, 38, .inl nf))]) [0, 2] rfl
      have hKc := hK.sub (tys' := [(ac, .int)]) [1] rfl
      refine vp_callSi (W.runV (As := [.int v3_7, .int 2]) (rest := []) ⟨hx, hb, hml, hown, hts⟩ (m_shapeIs l dC dI ad h0 v3_7 2 a0 v1 v2 v3 v4 (.ref t0) v6 v7 v8 v9 v10 v11 v12 v13 v14 v15 v16 v17 v18 v19 v20 v21 v22 v23 v24 v25 v26 v27 ac nf (by first | omega | decide | (simp only [fa_lt, fa_le, fa_eq, and_true, true_and, and_false, false_and, not_true_eq_false, not_false_eq_true, li_0, li_1, li_2, li_3, li_4, li_5, li_6, li_7, li_8, li_9, li_10, li_12, li_15, li_16, li_20, li_30, li_34, li_38, li_40, li_63, li_64, li_65, li_78, li_120, li_1000, li_4000, li_10000, li_11077, li_255, li_65535, li_m1, li_m2, li_m1000000001, li_m1000000002, li_m1000000003, li_m1000000004, li_m1000000005, li_m1000000006, li_m1000000007, or_true, true_or, or_false, false_or, implies_true, true_implies, false_implies] <;> omega)) (by first | omega | decide | (simp only [fa_lt, fa_le, fa_eq, and_true, true_and, and_false, false_and, not_true_eq_false, not_false_eq_true, li_0, li_1, li_2, li_3, li_4, li_5, li_6, li_7, li_8, li_9, li_10, li_12, li_15, li_16, li_20, li_30, li_34, li_38, li_40, li_63, li_64, li_65, li_78, li_120, li_1000, li_4000, li_10000, li_11077, li_255, li_65535, li_m1, li_m2, li_m1000000001, li_m1000000002, li_m1000000003, li_m1000000004, li_m1000000005, li_m1000000006, li_m1000000007, or_true, true_or, or_false, false_or, implies_true, true_implies, false_implies] <;> omega))) (cwV 2 hts g_m_spare_m_shapeIs_99 rfl rfl rfl (by decide +kernel) ⟨(Nat.le_of_ble_eq_true rfl), (Nat.le_of_ble_eq_true rfl)⟩) ⟨preS_blind, va_recv hKc hPc (ci := 7) (q0 := 0) rfl rfl, fun U hU hW => ⟨rfl, preS_at hU hW hPc hKc hev⟩⟩ rfl rfl hl.1 rfl (lv_room (Nat.le_of_ble_eq_true rfl)) dX9_spare_32 ⟨(Nat.le_of_ble_eq_true rfl), (Nat.le_of_ble_eq_true rfl)⟩) (fun r_10 hw => ?_)
      refine lv_if_ne (tgt := 51) hx hb dX9_spare_35 (by decide) (fun c_11 => ?_) (fun c_11 => ?_)
      · skip
        have tc_11 : ¬ r_10.toInt = 0 := fun h => c_11 ((fa_eq _ _).mpr h)
        obtain ⟨n_12, en_12⟩ : ∃ y : Int32, y = v3_7 + 1 := ⟨_, rfl⟩
        have tn_12 : n_12.toInt = v3_7.toInt + 1 := pp_add en_12 rfl rfl (by omega) (by omega)
        refine lv_iinc (v := n_12) (lv' := [(3, .int n_12), (4, .int r_7), (1, .long r_1), (0, .ref h0)]) hx hb dX9_spare_51 hl (k := 1) rfl (by rw [en_12]; rfl) (by decide) rfl (fun ls hl => ?_)
        clear en_12
        refine lv_goto (tgt := 7) hx hb dX9_spare_54 (by decide) ?_
        exact ihk_2 n_12 _ _ _ (by show ((nf 0).toInt - n_12.toInt).toNat < k_2; omega) ⟨(by first | omega | decide | (simp only [fa_lt, fa_le, fa_eq, and_true, true_and, and_false, false_and, not_true_eq_false, not_false_eq_true, li_0, li_1, li_2, li_3, li_4, li_5, li_6, li_7, li_8, li_9, li_10, li_12, li_15, li_16, li_20, li_30, li_34, li_38, li_40, li_63, li_64, li_65, li_78, li_120, li_1000, li_4000, li_10000, li_11077, li_255, li_65535, li_m1, li_m2, li_m1000000001, li_m1000000002, li_m1000000003, li_m1000000004, li_m1000000005, li_m1000000006, li_m1000000007, or_true, true_or, or_false, false_or, implies_true, true_implies, false_implies] <;> omega)), hP.sub [0, 1, 2] rfl, hD.sub [0, 1, 2] (by decide) rfl, hS, lv_sub hl [0, 2, 3] rfl⟩
      · skip
        have tc_11 : r_10.toInt = 0 := (fa_eq _ _).mp c_11
        refine lv_aload_n hx hb dX9_spare_38 rfl (lv_at hl 3 rfl) ?_
        refine lv_iload hx hb dX9_spare_39 (lv_at hl 0 rfl) ?_
        have hPc := hP.sub (ws' := [(h0, .inr (7, [.ref a0, v1, v2, v3, v4, .ref t0, v6, v7, v8, v9, v10, v11, v12, v13, v14, v15, v16, v17, v18, v19, v20, v21, v22, v23, v24, v25, v26, v27])), (a0, .inl (ac, 38, .inl nf))]) [0, 2] rfl
        have hKc := hK.sub (tys' := [(ac, .int)]) [1] rfl
        refine vp_callSl (W.runV (As := [.int r_7]) (rest := []) ⟨hx, hb, hml, hown, hts⟩ (m_darkBut l dC dI ad h0 r_7 a0 v1 v2 v3 v4 (.ref t0) v6 v7 v8 v9 v10 v11 v12 v13 v14 v15 v16 v17 v18 v19 v20 v21 v22 v23 v24 v25 v26 v27 ac nf hI) (cwV 1 hts g_m_spare_m_darkBut_141 rfl rfl rfl (by decide +kernel) ⟨(Nat.le_of_ble_eq_true rfl), (Nat.le_of_ble_eq_true rfl)⟩) ⟨preS_blind, va_recv hKc hPc (ci := 7) (q0 := 0) rfl rfl, fun U hU hW => ⟨rfl, preS_at hU hW hPc hKc hev⟩⟩ rfl rfl hl.1 rfl (lv_room (Nat.le_of_ble_eq_true rfl)) dX9_spare_41 ⟨(Nat.le_of_ble_eq_true rfl), (Nat.le_of_ble_eq_true rfl)⟩) (fun r_13 hw => ?_)
        refine lv_lload_n hx hb dX9_spare_44 rfl (lv_at hl 2 rfl) ?_
        refine W.lcmp hx hb dX9_spare_45 ?_
        refine lv_topi (fun n_14 en_14 => ?_)
        refine lv_if_ne (tgt := 51) hx hb dX9_spare_46 (by decide) (fun c_15 => ?_) (fun c_15 => ?_)
        · skip
          have tc_15 : ¬ n_14.toInt = 0 := fun h => c_15 ((fa_eq _ _).mpr h)
          have zc_15 : ¬ r_13 = r_1 := pp_lc_ne en_14 c_15
          obtain ⟨n_16, en_16⟩ : ∃ y : Int32, y = v3_7 + 1 := ⟨_, rfl⟩
          have tn_16 : n_16.toInt = v3_7.toInt + 1 := pp_add en_16 rfl rfl (by omega) (by omega)
          refine lv_iinc (v := n_16) (lv' := [(3, .int n_16), (4, .int r_7), (1, .long r_1), (0, .ref h0)]) hx hb dX9_spare_51 hl (k := 1) rfl (by rw [en_16]; rfl) (by decide) rfl (fun ls hl => ?_)
          clear en_16
          refine lv_goto (tgt := 7) hx hb dX9_spare_54 (by decide) ?_
          exact ihk_2 n_16 _ _ _ (by show ((nf 0).toInt - n_16.toInt).toNat < k_2; omega) ⟨(by first | omega | decide | (simp only [fa_lt, fa_le, fa_eq, and_true, true_and, and_false, false_and, not_true_eq_false, not_false_eq_true, li_0, li_1, li_2, li_3, li_4, li_5, li_6, li_7, li_8, li_9, li_10, li_12, li_15, li_16, li_20, li_30, li_34, li_38, li_40, li_63, li_64, li_65, li_78, li_120, li_1000, li_4000, li_10000, li_11077, li_255, li_65535, li_m1, li_m2, li_m1000000001, li_m1000000002, li_m1000000003, li_m1000000004, li_m1000000005, li_m1000000006, li_m1000000007, or_true, true_or, or_false, false_or, implies_true, true_implies, false_implies] <;> omega)), hP.sub [0, 1, 2] rfl, hD.sub [0, 1, 2] (by decide) rfl, hS, lv_sub hl [0, 2, 3] rfl⟩
        · skip
          have tc_15 : n_14.toInt = 0 := (fa_eq _ _).mp c_15
          refine lv_iload_n hx hb dX9_spare_49 rfl (lv_at hl 1 rfl) ?_
          have hP9 := hP.sub (ws' := [(h0, .inr (7, [.ref a0, v1, v2, v3, v4, .ref t0, v6, v7, v8, v9, v10, v11, v12, v13, v14, v15, v16, v17, v18, v19, v20, v21, v22, v23, v24, v25, v26, v27])), (t0, .inl (tc, 8, .inl tf)), (a0, .inl (ac, 38, .inl nf))]) [0, 1, 2] rfl
          have hD9 := hD.sub (ws' := [(h0, .inr (7, [.ref a0, v1, v2, v3, v4, .ref t0, v6, v7, v8, v9, v10, v11, v12, v13, v14, v15, v16, v17, v18, v19, v20, v21, v22, v23, v24, v25, v26, v27])), (t0, .inl (tc, 8, .inl tf)), (a0, .inl (ac, 38, .inl nf))]) [0, 1, 2] (by decide) rfl
          have hK9 := hK.sub (tys' := [(tc, .int), (ac, .int)]) [0, 1] rfl
          exact W.iret (v := v3_7) hx hb hr (fun t ht hW => ⟨⟨v3_7, (), rfl, trivial, tf, by rw [ht]; exact hP9, va_K.moved hW.alike hK9, hD9⟩, hS.F ht⟩) hS.2.2 dX9_spare_50

