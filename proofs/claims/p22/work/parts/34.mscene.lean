theorem dX9_painted_0 : decode cX9_painted 0 = .ok (.aload_n 0, 1) := by decide +kernel
theorem dX9_painted_1 : decode cX9_painted 1 = .ok (.getfield 16, 3) := by decide +kernel
theorem dX9_painted_4 : decode cX9_painted 4 = .ok (.aload_n 0, 1) := by decide +kernel
theorem dX9_painted_5 : decode cX9_painted 5 = .ok (.getfield 9, 3) := by decide +kernel
theorem dX9_painted_8 : decode cX9_painted 8 = .ok (.iconst 1, 1) := by decide +kernel
theorem dX9_painted_9 : decode cX9_painted 9 = .ok (.iaload, 1) := by decide +kernel
theorem dX9_painted_10 : decode cX9_painted 10 = .ok (.lload_n 1, 1) := by decide +kernel
theorem dX9_painted_11 : decode cX9_painted 11 = .ok (.lastore, 1) := by decide +kernel
theorem dX9_painted_12 : decode cX9_painted 12 = .ok (.aload_n 0, 1) := by decide +kernel
theorem dX9_painted_13 : decode cX9_painted 13 = .ok (.getfield 9, 3) := by decide +kernel
theorem dX9_painted_16 : decode cX9_painted 16 = .ok (.iconst 1, 1) := by decide +kernel
theorem dX9_painted_17 : decode cX9_painted 17 = .ok (.dup2, 1) := by decide +kernel
theorem dX9_painted_18 : decode cX9_painted 18 = .ok (.iaload, 1) := by decide +kernel
theorem dX9_painted_19 : decode cX9_painted 19 = .ok (.iconst 1, 1) := by decide +kernel
theorem dX9_painted_20 : decode cX9_painted 20 = .ok (.iadd, 1) := by decide +kernel
theorem dX9_painted_21 : decode cX9_painted 21 = .ok (.iastore, 1) := by decide +kernel
theorem dX9_painted_22 : decode cX9_painted 22 = .ok (.aload_n 0, 1) := by decide +kernel
theorem dX9_painted_23 : decode cX9_painted 23 = .ok (.getfield 9, 3) := by decide +kernel
theorem dX9_painted_26 : decode cX9_painted 26 = .ok (.iconst 1, 1) := by decide +kernel
theorem dX9_painted_27 : decode cX9_painted 27 = .ok (.iaload, 1) := by decide +kernel
theorem dX9_painted_28 : decode cX9_painted 28 = .ok (.iconst 1, 1) := by decide +kernel
theorem dX9_painted_29 : decode cX9_painted 29 = .ok (.isub, 1) := by decide +kernel
theorem dX9_painted_30 : decode cX9_painted 30 = .ok (.ireturn, 1) := by decide +kernel
theorem dX9_scene_0 : decode cX9_scene 0 = .ok (.aload_n 0, 1) := by decide +kernel
theorem dX9_scene_1 : decode cX9_scene 1 = .ok (.getfield 9, 3) := by decide +kernel
theorem dX9_scene_4 : decode cX9_scene 4 = .ok (.iconst 1, 1) := by decide +kernel
theorem dX9_scene_5 : decode cX9_scene 5 = .ok (.iaload, 1) := by decide +kernel
theorem dX9_scene_6 : decode cX9_scene 6 = .ok (.bipush 7, 2) := by decide +kernel
theorem dX9_scene_8 : decode cX9_scene 8 = .ok (.if_icmp .ne 12, 3) := by decide +kernel
theorem dX9_scene_11 : decode cX9_scene 11 = .ok (.aload_n 0, 1) := by decide +kernel
theorem dX9_scene_12 : decode cX9_scene 12 = .ok (.ldc 88, 2) := by decide +kernel
theorem dX9_scene_14 : decode cX9_scene 14 = .ok (.invokevirtual 84, 3) := by decide +kernel
theorem dX9_scene_17 : decode cX9_scene 17 = .ok (.goto 8, 3) := by decide +kernel
theorem dX9_scene_20 : decode cX9_scene 20 = .ok (.aload_n 0, 1) := by decide +kernel
theorem dX9_scene_21 : decode cX9_scene 21 = .ok (.lload_n 1, 1) := by decide +kernel
theorem dX9_scene_22 : decode cX9_scene 22 = .ok (.invokevirtual 151, 3) := by decide +kernel
theorem dX9_scene_25 : decode cX9_scene 25 = .ok (.ireturn, 1) := by decide +kernel
theorem dX9_draw_0 : decode cX9_draw 0 = .ok (.aload_n 0, 1) := by decide +kernel
theorem dX9_draw_1 : decode cX9_draw 1 = .ok (.iload_n 1, 1) := by decide +kernel
theorem dX9_draw_2 : decode cX9_draw 2 = .ok (.invokevirtual 155, 3) := by decide +kernel
theorem dX9_draw_5 : decode cX9_draw 5 = .ok (.ifCond .ne 10, 3) := by decide +kernel
theorem dX9_draw_8 : decode cX9_draw 8 = .ok (.aload_n 0, 1) := by decide +kernel
theorem dX9_draw_9 : decode cX9_draw 9 = .ok (.ldc 74, 2) := by decide +kernel
theorem dX9_draw_11 : decode cX9_draw 11 = .ok (.invokevirtual 84, 3) := by decide +kernel
theorem dX9_draw_14 : decode cX9_draw 14 = .ok (.ireturn, 1) := by decide +kernel
theorem dX9_draw_15 : decode cX9_draw 15 = .ok (.aload_n 0, 1) := by decide +kernel
theorem dX9_draw_16 : decode cX9_draw 16 = .ok (.getfield 16, 3) := by decide +kernel
theorem dX9_draw_19 : decode cX9_draw 19 = .ok (.iload_n 1, 1) := by decide +kernel
theorem dX9_draw_20 : decode cX9_draw 20 = .ok (.laload, 1) := by decide +kernel
theorem dX9_draw_21 : decode cX9_draw 21 = .ok (.aload_n 0, 1) := by decide +kernel
theorem dX9_draw_22 : decode cX9_draw 22 = .ok (.invokevirtual 146, 3) := by decide +kernel
theorem dX9_draw_25 : decode cX9_draw 25 = .ok (.lxor, 1) := by decide +kernel
theorem dX9_draw_26 : decode cX9_draw 26 = .ok (.invokestatic 158, 3) := by decide +kernel
theorem dX9_draw_29 : decode cX9_draw 29 = .ok (.istore_n 2, 1) := by decide +kernel
theorem dX9_draw_30 : decode cX9_draw 30 = .ok (.aload_n 0, 1) := by decide +kernel
theorem dX9_draw_31 : decode cX9_draw 31 = .ok (.getfield 16, 3) := by decide +kernel
theorem dX9_draw_34 : decode cX9_draw 34 = .ok (.iload_n 1, 1) := by decide +kernel
theorem dX9_draw_35 : decode cX9_draw 35 = .ok (.aload_n 0, 1) := by decide +kernel
theorem dX9_draw_36 : decode cX9_draw 36 = .ok (.invokevirtual 146, 3) := by decide +kernel
theorem dX9_draw_39 : decode cX9_draw 39 = .ok (.lastore, 1) := by decide +kernel
theorem dX9_draw_40 : decode cX9_draw 40 = .ok (.iload_n 2, 1) := by decide +kernel
theorem dX9_draw_41 : decode cX9_draw 41 = .ok (.ireturn, 1) := by decide +kernel
theorem dX9_picture_0 : decode cX9_picture 0 = .ok (.aload_n 0, 1) := by decide +kernel
theorem dX9_picture_1 : decode cX9_picture 1 = .ok (.iload_n 1, 1) := by decide +kernel
theorem dX9_picture_2 : decode cX9_picture 2 = .ok (.invokevirtual 155, 3) := by decide +kernel
theorem dX9_picture_5 : decode cX9_picture 5 = .ok (.ifCond .eq 12, 3) := by decide +kernel
theorem dX9_picture_8 : decode cX9_picture 8 = .ok (.aload_n 0, 1) := by decide +kernel
theorem dX9_picture_9 : decode cX9_picture 9 = .ok (.getfield 16, 3) := by decide +kernel
theorem dX9_picture_12 : decode cX9_picture 12 = .ok (.iload_n 1, 1) := by decide +kernel
theorem dX9_picture_13 : decode cX9_picture 13 = .ok (.laload, 1) := by decide +kernel
theorem dX9_picture_14 : decode cX9_picture 14 = .ok (.goto 10, 3) := by decide +kernel
theorem dX9_picture_17 : decode cX9_picture 17 = .ok (.aload_n 0, 1) := by decide +kernel
theorem dX9_picture_18 : decode cX9_picture 18 = .ok (.ldc 74, 2) := by decide +kernel
theorem dX9_picture_20 : decode cX9_picture 20 = .ok (.invokevirtual 84, 3) := by decide +kernel
theorem dX9_picture_23 : decode cX9_picture 23 = .ok (.i2l, 1) := by decide +kernel
theorem dX9_picture_24 : decode cX9_picture 24 = .ok (.lreturn, 1) := by decide +kernel
theorem dX9_off_0 : decode cX9_off 0 = .ok (.aload_n 0, 1) := by decide +kernel
theorem dX9_off_1 : decode cX9_off 1 = .ok (.iload_n 1, 1) := by decide +kernel
theorem dX9_off_2 : decode cX9_off 2 = .ok (.invokevirtual 155, 3) := by decide +kernel
theorem dX9_off_5 : decode cX9_off 5 = .ok (.ifCond .eq 20, 3) := by decide +kernel
theorem dX9_off_8 : decode cX9_off 8 = .ok (.aload_n 0, 1) := by decide +kernel
theorem dX9_off_9 : decode cX9_off 9 = .ok (.getfield 16, 3) := by decide +kernel
theorem dX9_off_12 : decode cX9_off 12 = .ok (.iload_n 1, 1) := by decide +kernel
theorem dX9_off_13 : decode cX9_off 13 = .ok (.laload, 1) := by decide +kernel
theorem dX9_off_14 : decode cX9_off 14 = .ok (.aload_n 0, 1) := by decide +kernel
theorem dX9_off_15 : decode cX9_off 15 = .ok (.invokevirtual 146, 3) := by decide +kernel
theorem dX9_off_18 : decode cX9_off 18 = .ok (.lxor, 1) := by decide +kernel
theorem dX9_off_19 : decode cX9_off 19 = .ok (.invokestatic 158, 3) := by decide +kernel
theorem dX9_off_22 : decode cX9_off 22 = .ok (.goto 9, 3) := by decide +kernel
theorem dX9_off_25 : decode cX9_off 25 = .ok (.aload_n 0, 1) := by decide +kernel
theorem dX9_off_26 : decode cX9_off 26 = .ok (.ldc 74, 2) := by decide +kernel
theorem dX9_off_28 : decode cX9_off 28 = .ok (.invokevirtual 84, 3) := by decide +kernel
theorem dX9_off_31 : decode cX9_off 31 = .ok (.ireturn, 1) := by decide +kernel
theorem dX9_changesOf_0 : decode cX9_changesOf 0 = .ok (.aload_n 0, 1) := by decide +kernel
theorem dX9_changesOf_1 : decode cX9_changesOf 1 = .ok (.getfield 16, 3) := by decide +kernel
theorem dX9_changesOf_4 : decode cX9_changesOf 4 = .ok (.iload_n 1, 1) := by decide +kernel
theorem dX9_changesOf_5 : decode cX9_changesOf 5 = .ok (.laload, 1) := by decide +kernel
theorem dX9_changesOf_6 : decode cX9_changesOf 6 = .ok (.aload_n 0, 1) := by decide +kernel
theorem dX9_changesOf_7 : decode cX9_changesOf 7 = .ok (.getfield 16, 3) := by decide +kernel
theorem dX9_changesOf_10 : decode cX9_changesOf 10 = .ok (.iload_n 2, 1) := by decide +kernel
theorem dX9_changesOf_11 : decode cX9_changesOf 11 = .ok (.laload, 1) := by decide +kernel
theorem dX9_changesOf_12 : decode cX9_changesOf 12 = .ok (.lxor, 1) := by decide +kernel
theorem dX9_changesOf_13 : decode cX9_changesOf 13 = .ok (.invokestatic 158, 3) := by decide +kernel
theorem dX9_changesOf_16 : decode cX9_changesOf 16 = .ok (.iconst 3, 1) := by decide +kernel
theorem dX9_changesOf_17 : decode cX9_changesOf 17 = .ok (.iadd, 1) := by decide +kernel
theorem dX9_changesOf_18 : decode cX9_changesOf 18 = .ok (.iconst 4, 1) := by decide +kernel
theorem dX9_changesOf_19 : decode cX9_changesOf 19 = .ok (.idiv, 1) := by decide +kernel
theorem dX9_changesOf_20 : decode cX9_changesOf 20 = .ok (.ireturn, 1) := by decide +kernel
theorem dX9_changes_0 : decode cX9_changes 0 = .ok (.aload_n 0, 1) := by decide +kernel
theorem dX9_changes_1 : decode cX9_changes 1 = .ok (.iload_n 1, 1) := by decide +kernel
theorem dX9_changes_2 : decode cX9_changes 2 = .ok (.invokevirtual 155, 3) := by decide +kernel
theorem dX9_changes_5 : decode cX9_changes 5 = .ok (.ifCond .eq 20, 3) := by decide +kernel
theorem dX9_changes_8 : decode cX9_changes 8 = .ok (.aload_n 0, 1) := by decide +kernel
theorem dX9_changes_9 : decode cX9_changes 9 = .ok (.iload_n 2, 1) := by decide +kernel
theorem dX9_changes_10 : decode cX9_changes 10 = .ok (.invokevirtual 155, 3) := by decide +kernel
theorem dX9_changes_13 : decode cX9_changes 13 = .ok (.ifCond .eq 12, 3) := by decide +kernel
theorem dX9_changes_16 : decode cX9_changes 16 = .ok (.aload_n 0, 1) := by decide +kernel
theorem dX9_changes_17 : decode cX9_changes 17 = .ok (.iload_n 1, 1) := by decide +kernel
theorem dX9_changes_18 : decode cX9_changes 18 = .ok (.iload_n 2, 1) := by decide +kernel
theorem dX9_changes_19 : decode cX9_changes 19 = .ok (.invokevirtual 161, 3) := by decide +kernel
theorem dX9_changes_22 : decode cX9_changes 22 = .ok (.goto 9, 3) := by decide +kernel
theorem dX9_changes_25 : decode cX9_changes 25 = .ok (.aload_n 0, 1) := by decide +kernel
theorem dX9_changes_26 : decode cX9_changes 26 = .ok (.ldc 74, 2) := by decide +kernel
theorem dX9_changes_28 : decode cX9_changes 28 = .ok (.invokevirtual 84, 3) := by decide +kernel
theorem dX9_changes_31 : decode cX9_changes 31 = .ok (.ireturn, 1) := by decide +kernel
theorem dX9_allow_0 : decode cX9_allow 0 = .ok (.iload_n 1, 1) := by decide +kernel
theorem dX9_allow_1 : decode cX9_allow 1 = .ok (.iconst 0, 1) := by decide +kernel
theorem dX9_allow_2 : decode cX9_allow 2 = .ok (.bipush 63, 2) := by decide +kernel
theorem dX9_allow_4 : decode cX9_allow 4 = .ok (.invokestatic 75, 3) := by decide +kernel
theorem dX9_allow_7 : decode cX9_allow 7 = .ok (.ifCond .eq 25, 3) := by decide +kernel
theorem dX9_allow_10 : decode cX9_allow 10 = .ok (.iload_n 1, 1) := by decide +kernel
theorem dX9_allow_11 : decode cX9_allow 11 = .ok (.bipush 15, 2) := by decide +kernel
theorem dX9_allow_13 : decode cX9_allow 13 = .ok (.iand, 1) := by decide +kernel
theorem dX9_allow_14 : decode cX9_allow 14 = .ok (.ifCond .le 18, 3) := by decide +kernel
theorem dX9_allow_17 : decode cX9_allow 17 = .ok (.iload_n 1, 1) := by decide +kernel
theorem dX9_allow_18 : decode cX9_allow 18 = .ok (.bipush 15, 2) := by decide +kernel
theorem dX9_allow_20 : decode cX9_allow 20 = .ok (.if_icmp .le 12, 3) := by decide +kernel
theorem dX9_allow_23 : decode cX9_allow 23 = .ok (.aload_n 0, 1) := by decide +kernel
theorem dX9_allow_24 : decode cX9_allow 24 = .ok (.iconst 2, 1) := by decide +kernel
theorem dX9_allow_25 : decode cX9_allow 25 = .ok (.iload_n 1, 1) := by decide +kernel
theorem dX9_allow_26 : decode cX9_allow 26 = .ok (.invokevirtual 102, 3) := by decide +kernel
theorem dX9_allow_29 : decode cX9_allow 29 = .ok (.goto 9, 3) := by decide +kernel
theorem dX9_allow_32 : decode cX9_allow 32 = .ok (.aload_n 0, 1) := by decide +kernel
theorem dX9_allow_33 : decode cX9_allow 33 = .ok (.ldc 74, 2) := by decide +kernel
theorem dX9_allow_35 : decode cX9_allow 35 = .ok (.invokevirtual 84, 3) := by decide +kernel
theorem dX9_allow_38 : decode cX9_allow 38 = .ok (.ireturn, 1) := by decide +kernel
theorem dX9_isAllowed_0 : decode cX9_isAllowed 0 = .ok (.iload_n 1, 1) := by decide +kernel
theorem dX9_isAllowed_1 : decode cX9_isAllowed 1 = .ok (.invokestatic 126, 3) := by decide +kernel
theorem dX9_isAllowed_4 : decode cX9_isAllowed 4 = .ok (.ifCond .eq 47, 3) := by decide +kernel
theorem dX9_isAllowed_7 : decode cX9_isAllowed 7 = .ok (.aload_n 0, 1) := by decide +kernel
theorem dX9_isAllowed_8 : decode cX9_isAllowed 8 = .ok (.getfield 9, 3) := by decide +kernel
theorem dX9_isAllowed_11 : decode cX9_isAllowed 11 = .ok (.iconst 2, 1) := by decide +kernel
theorem dX9_isAllowed_12 : decode cX9_isAllowed 12 = .ok (.iaload, 1) := by decide +kernel
theorem dX9_isAllowed_13 : decode cX9_isAllowed 13 = .ok (.iload_n 1, 1) := by decide +kernel
theorem dX9_isAllowed_14 : decode cX9_isAllowed 14 = .ok (.sipush 1000, 3) := by decide +kernel
theorem dX9_isAllowed_17 : decode cX9_isAllowed 17 = .ok (.idiv, 1) := by decide +kernel
theorem dX9_isAllowed_18 : decode cX9_isAllowed 18 = .ok (.iconst 4, 1) := by decide +kernel
theorem dX9_isAllowed_19 : decode cX9_isAllowed 19 = .ok (.irem, 1) := by decide +kernel
theorem dX9_isAllowed_20 : decode cX9_isAllowed 20 = .ok (.ishr, 1) := by decide +kernel
theorem dX9_isAllowed_21 : decode cX9_isAllowed 21 = .ok (.iconst 1, 1) := by decide +kernel
theorem dX9_isAllowed_22 : decode cX9_isAllowed 22 = .ok (.iand, 1) := by decide +kernel
theorem dX9_isAllowed_23 : decode cX9_isAllowed 23 = .ok (.iconst 1, 1) := by decide +kernel
theorem dX9_isAllowed_24 : decode cX9_isAllowed 24 = .ok (.if_icmp .ne 27, 3) := by decide +kernel
theorem dX9_isAllowed_27 : decode cX9_isAllowed 27 = .ok (.aload_n 0, 1) := by decide +kernel
theorem dX9_isAllowed_28 : decode cX9_isAllowed 28 = .ok (.getfield 9, 3) := by decide +kernel
theorem dX9_isAllowed_31 : decode cX9_isAllowed 31 = .ok (.iconst 2, 1) := by decide +kernel
theorem dX9_isAllowed_32 : decode cX9_isAllowed 32 = .ok (.iaload, 1) := by decide +kernel
theorem dX9_isAllowed_33 : decode cX9_isAllowed 33 = .ok (.iconst 3, 1) := by decide +kernel
theorem dX9_isAllowed_34 : decode cX9_isAllowed 34 = .ok (.iload_n 1, 1) := by decide +kernel
theorem dX9_isAllowed_35 : decode cX9_isAllowed 35 = .ok (.sipush 4000, 3) := by decide +kernel
theorem dX9_isAllowed_38 : decode cX9_isAllowed 38 = .ok (.idiv, 1) := by decide +kernel
theorem dX9_isAllowed_39 : decode cX9_isAllowed 39 = .ok (.iadd, 1) := by decide +kernel
theorem dX9_isAllowed_40 : decode cX9_isAllowed 40 = .ok (.ishr, 1) := by decide +kernel
theorem dX9_isAllowed_41 : decode cX9_isAllowed 41 = .ok (.iconst 1, 1) := by decide +kernel
theorem dX9_isAllowed_42 : decode cX9_isAllowed 42 = .ok (.iand, 1) := by decide +kernel
theorem dX9_isAllowed_43 : decode cX9_isAllowed 43 = .ok (.iconst 1, 1) := by decide +kernel
theorem dX9_isAllowed_44 : decode cX9_isAllowed 44 = .ok (.if_icmp .ne 7, 3) := by decide +kernel
theorem dX9_isAllowed_47 : decode cX9_isAllowed 47 = .ok (.iconst 1, 1) := by decide +kernel
theorem dX9_isAllowed_48 : decode cX9_isAllowed 48 = .ok (.goto 4, 3) := by decide +kernel
theorem dX9_isAllowed_51 : decode cX9_isAllowed 51 = .ok (.iconst 0, 1) := by decide +kernel
theorem dX9_isAllowed_52 : decode cX9_isAllowed 52 = .ok (.ireturn, 1) := by decide +kernel
theorem dX9_taken_0 : decode cX9_taken 0 = .ok (.aload_n 0, 1) := by decide +kernel
theorem dX9_taken_1 : decode cX9_taken 1 = .ok (.iload_n 1, 1) := by decide +kernel
theorem dX9_taken_2 : decode cX9_taken 2 = .ok (.invokevirtual 155, 3) := by decide +kernel
theorem dX9_taken_5 : decode cX9_taken 5 = .ok (.ifCond .eq 13, 3) := by decide +kernel
theorem dX9_taken_8 : decode cX9_taken 8 = .ok (.iload_n 2, 1) := by decide +kernel
theorem dX9_taken_9 : decode cX9_taken 9 = .ok (.iconst 0, 1) := by decide +kernel
theorem dX9_taken_10 : decode cX9_taken 10 = .ok (.bipush 64, 2) := by decide +kernel
theorem dX9_taken_12 : decode cX9_taken 12 = .ok (.invokestatic 75, 3) := by decide +kernel
theorem dX9_taken_15 : decode cX9_taken 15 = .ok (.ifCond .ne 10, 3) := by decide +kernel
theorem dX9_taken_18 : decode cX9_taken 18 = .ok (.aload_n 0, 1) := by decide +kernel
theorem dX9_taken_19 : decode cX9_taken 19 = .ok (.ldc 74, 2) := by decide +kernel
theorem dX9_taken_21 : decode cX9_taken 21 = .ok (.invokevirtual 84, 3) := by decide +kernel
theorem dX9_taken_24 : decode cX9_taken 24 = .ok (.ireturn, 1) := by decide +kernel
theorem dX9_taken_25 : decode cX9_taken 25 = .ok (.iconst 0, 1) := by decide +kernel
theorem dX9_taken_26 : decode cX9_taken 26 = .ok (.istore_n 3, 1) := by decide +kernel
theorem dX9_taken_27 : decode cX9_taken 27 = .ok (.iconst 0, 1) := by decide +kernel
theorem dX9_taken_28 : decode cX9_taken 28 = .ok (.istore 4, 2) := by decide +kernel
theorem dX9_taken_30 : decode cX9_taken 30 = .ok (.iload 4, 2) := by decide +kernel
theorem dX9_taken_32 : decode cX9_taken 32 = .ok (.aload_n 0, 1) := by decide +kernel
theorem dX9_taken_33 : decode cX9_taken 33 = .ok (.getfield 9, 3) := by decide +kernel
theorem dX9_taken_36 : decode cX9_taken 36 = .ok (.iconst 1, 1) := by decide +kernel
theorem dX9_taken_37 : decode cX9_taken 37 = .ok (.iaload, 1) := by decide +kernel
theorem dX9_taken_38 : decode cX9_taken 38 = .ok (.if_icmp .ge 47, 3) := by decide +kernel
theorem dX9_taken_41 : decode cX9_taken 41 = .ok (.iload_n 3, 1) := by decide +kernel
theorem dX9_taken_42 : decode cX9_taken 42 = .ok (.iload 4, 2) := by decide +kernel
theorem dX9_taken_44 : decode cX9_taken 44 = .ok (.iload_n 1, 1) := by decide +kernel
theorem dX9_taken_45 : decode cX9_taken 45 = .ok (.if_icmp .eq 31, 3) := by decide +kernel
theorem dX9_taken_48 : decode cX9_taken 48 = .ok (.aload_n 0, 1) := by decide +kernel
theorem dX9_taken_49 : decode cX9_taken 49 = .ok (.getfield 16, 3) := by decide +kernel
theorem dX9_taken_52 : decode cX9_taken 52 = .ok (.iload 4, 2) := by decide +kernel
theorem dX9_taken_54 : decode cX9_taken 54 = .ok (.laload, 1) := by decide +kernel
theorem dX9_taken_55 : decode cX9_taken 55 = .ok (.aload_n 0, 1) := by decide +kernel
theorem dX9_taken_56 : decode cX9_taken 56 = .ok (.getfield 16, 3) := by decide +kernel
theorem dX9_taken_59 : decode cX9_taken 59 = .ok (.iload_n 1, 1) := by decide +kernel
theorem dX9_taken_60 : decode cX9_taken 60 = .ok (.laload, 1) := by decide +kernel
theorem dX9_taken_61 : decode cX9_taken 61 = .ok (.lxor, 1) := by decide +kernel
theorem dX9_taken_62 : decode cX9_taken 62 = .ok (.invokestatic 158, 3) := by decide +kernel
theorem dX9_taken_65 : decode cX9_taken 65 = .ok (.iload_n 2, 1) := by decide +kernel
theorem dX9_taken_66 : decode cX9_taken 66 = .ok (.if_icmp .gt 10, 3) := by decide +kernel
theorem dX9_taken_69 : decode cX9_taken 69 = .ok (.iconst 1, 1) := by decide +kernel
theorem dX9_taken_70 : decode cX9_taken 70 = .ok (.iload 4, 2) := by decide +kernel
theorem dX9_taken_72 : decode cX9_taken 72 = .ok (.ishl, 1) := by decide +kernel
theorem dX9_taken_73 : decode cX9_taken 73 = .ok (.goto 4, 3) := by decide +kernel
theorem dX9_taken_76 : decode cX9_taken 76 = .ok (.iconst 0, 1) := by decide +kernel
theorem dX9_taken_77 : decode cX9_taken 77 = .ok (.ior, 1) := by decide +kernel
theorem dX9_taken_78 : decode cX9_taken 78 = .ok (.istore_n 3, 1) := by decide +kernel
theorem dX9_taken_79 : decode cX9_taken 79 = .ok (.iinc 4 1, 3) := by decide +kernel
theorem dX9_taken_82 : decode cX9_taken 82 = .ok (.goto (-52), 3) := by decide +kernel
theorem dX9_taken_85 : decode cX9_taken 85 = .ok (.iload_n 3, 1) := by decide +kernel
theorem dX9_taken_86 : decode cX9_taken 86 = .ok (.ireturn, 1) := by decide +kernel
theorem dX9_seen_0 : decode cX9_seen 0 = .ok (.iconst (-1), 1) := by decide +kernel
theorem dX9_seen_1 : decode cX9_seen 1 = .ok (.istore_n 1, 1) := by decide +kernel
theorem dX9_seen_2 : decode cX9_seen 2 = .ok (.bipush 65, 2) := by decide +kernel
theorem dX9_seen_4 : decode cX9_seen 4 = .ok (.istore_n 2, 1) := by decide +kernel
theorem dX9_seen_5 : decode cX9_seen 5 = .ok (.iconst 0, 1) := by decide +kernel
theorem dX9_seen_6 : decode cX9_seen 6 = .ok (.istore_n 3, 1) := by decide +kernel
theorem dX9_seen_7 : decode cX9_seen 7 = .ok (.iload_n 3, 1) := by decide +kernel
theorem dX9_seen_8 : decode cX9_seen 8 = .ok (.aload_n 0, 1) := by decide +kernel
theorem dX9_seen_9 : decode cX9_seen 9 = .ok (.getfield 9, 3) := by decide +kernel
theorem dX9_seen_12 : decode cX9_seen 12 = .ok (.iconst 1, 1) := by decide +kernel
theorem dX9_seen_13 : decode cX9_seen 13 = .ok (.iaload, 1) := by decide +kernel
theorem dX9_seen_14 : decode cX9_seen 14 = .ok (.if_icmp .ge 44, 3) := by decide +kernel
theorem dX9_seen_17 : decode cX9_seen 17 = .ok (.aload_n 0, 1) := by decide +kernel
theorem dX9_seen_18 : decode cX9_seen 18 = .ok (.getfield 16, 3) := by decide +kernel
theorem dX9_seen_21 : decode cX9_seen 21 = .ok (.iload_n 3, 1) := by decide +kernel
theorem dX9_seen_22 : decode cX9_seen 22 = .ok (.laload, 1) := by decide +kernel
theorem dX9_seen_23 : decode cX9_seen 23 = .ok (.aload_n 0, 1) := by decide +kernel
theorem dX9_seen_24 : decode cX9_seen 24 = .ok (.invokevirtual 146, 3) := by decide +kernel
theorem dX9_seen_27 : decode cX9_seen 27 = .ok (.lxor, 1) := by decide +kernel
theorem dX9_seen_28 : decode cX9_seen 28 = .ok (.invokestatic 158, 3) := by decide +kernel
theorem dX9_seen_31 : decode cX9_seen 31 = .ok (.istore 4, 2) := by decide +kernel
theorem dX9_seen_33 : decode cX9_seen 33 = .ok (.iload 4, 2) := by decide +kernel
theorem dX9_seen_35 : decode cX9_seen 35 = .ok (.iload_n 2, 1) := by decide +kernel
theorem dX9_seen_36 : decode cX9_seen 36 = .ok (.if_icmp .ge 7, 3) := by decide +kernel
theorem dX9_seen_39 : decode cX9_seen 39 = .ok (.iload_n 3, 1) := by decide +kernel
theorem dX9_seen_40 : decode cX9_seen 40 = .ok (.goto 4, 3) := by decide +kernel
theorem dX9_seen_43 : decode cX9_seen 43 = .ok (.iload_n 1, 1) := by decide +kernel
theorem dX9_seen_44 : decode cX9_seen 44 = .ok (.istore_n 1, 1) := by decide +kernel
theorem dX9_seen_45 : decode cX9_seen 45 = .ok (.iload_n 2, 1) := by decide +kernel
theorem dX9_seen_46 : decode cX9_seen 46 = .ok (.iload 4, 2) := by decide +kernel
theorem dX9_seen_48 : decode cX9_seen 48 = .ok (.invokestatic 171, 3) := by decide +kernel
theorem dX9_seen_51 : decode cX9_seen 51 = .ok (.istore_n 2, 1) := by decide +kernel
theorem dX9_seen_52 : decode cX9_seen 52 = .ok (.iinc 3 1, 3) := by decide +kernel
theorem dX9_seen_55 : decode cX9_seen 55 = .ok (.goto (-48), 3) := by decide +kernel
theorem dX9_seen_58 : decode cX9_seen 58 = .ok (.iload_n 1, 1) := by decide +kernel
theorem dX9_seen_59 : decode cX9_seen 59 = .ok (.ifCond .ge 12, 3) := by decide +kernel
theorem dX9_seen_62 : decode cX9_seen 62 = .ok (.aload_n 0, 1) := by decide +kernel
theorem dX9_seen_63 : decode cX9_seen 63 = .ok (.ldc 150, 2) := by decide +kernel
theorem dX9_seen_65 : decode cX9_seen 65 = .ok (.invokevirtual 84, 3) := by decide +kernel
theorem dX9_seen_68 : decode cX9_seen 68 = .ok (.goto 4, 3) := by decide +kernel
theorem dX9_seen_71 : decode cX9_seen 71 = .ok (.iload_n 1, 1) := by decide +kernel
theorem dX9_seen_72 : decode cX9_seen 72 = .ok (.ireturn, 1) := by decide +kernel
theorem dX9_closest_0 : decode cX9_closest 0 = .ok (.bipush 65, 2) := by decide +kernel
theorem dX9_closest_2 : decode cX9_closest 2 = .ok (.istore_n 1, 1) := by decide +kernel
theorem dX9_closest_3 : decode cX9_closest 3 = .ok (.iconst 0, 1) := by decide +kernel
theorem dX9_closest_4 : decode cX9_closest 4 = .ok (.istore_n 2, 1) := by decide +kernel
theorem dX9_closest_5 : decode cX9_closest 5 = .ok (.iload_n 2, 1) := by decide +kernel
theorem dX9_closest_6 : decode cX9_closest 6 = .ok (.aload_n 0, 1) := by decide +kernel
theorem dX9_closest_7 : decode cX9_closest 7 = .ok (.getfield 9, 3) := by decide +kernel
theorem dX9_closest_10 : decode cX9_closest 10 = .ok (.iconst 1, 1) := by decide +kernel
theorem dX9_closest_11 : decode cX9_closest 11 = .ok (.iaload, 1) := by decide +kernel
theorem dX9_closest_12 : decode cX9_closest 12 = .ok (.if_icmp .ge 43, 3) := by decide +kernel
theorem dX9_closest_15 : decode cX9_closest 15 = .ok (.iconst 0, 1) := by decide +kernel
theorem dX9_closest_16 : decode cX9_closest 16 = .ok (.istore_n 3, 1) := by decide +kernel
theorem dX9_closest_17 : decode cX9_closest 17 = .ok (.iload_n 3, 1) := by decide +kernel
theorem dX9_closest_18 : decode cX9_closest 18 = .ok (.iload_n 2, 1) := by decide +kernel
theorem dX9_closest_19 : decode cX9_closest 19 = .ok (.if_icmp .ge 30, 3) := by decide +kernel
theorem dX9_closest_22 : decode cX9_closest 22 = .ok (.iload_n 1, 1) := by decide +kernel
theorem dX9_closest_23 : decode cX9_closest 23 = .ok (.aload_n 0, 1) := by decide +kernel
theorem dX9_closest_24 : decode cX9_closest 24 = .ok (.getfield 16, 3) := by decide +kernel
theorem dX9_closest_27 : decode cX9_closest 27 = .ok (.iload_n 2, 1) := by decide +kernel
theorem dX9_closest_28 : decode cX9_closest 28 = .ok (.laload, 1) := by decide +kernel
theorem dX9_closest_29 : decode cX9_closest 29 = .ok (.aload_n 0, 1) := by decide +kernel
theorem dX9_closest_30 : decode cX9_closest 30 = .ok (.getfield 16, 3) := by decide +kernel
theorem dX9_closest_33 : decode cX9_closest 33 = .ok (.iload_n 3, 1) := by decide +kernel
theorem dX9_closest_34 : decode cX9_closest 34 = .ok (.laload, 1) := by decide +kernel
theorem dX9_closest_35 : decode cX9_closest 35 = .ok (.lxor, 1) := by decide +kernel
theorem dX9_closest_36 : decode cX9_closest 36 = .ok (.invokestatic 158, 3) := by decide +kernel
theorem dX9_closest_39 : decode cX9_closest 39 = .ok (.invokestatic 171, 3) := by decide +kernel
theorem dX9_closest_42 : decode cX9_closest 42 = .ok (.istore_n 1, 1) := by decide +kernel
theorem dX9_closest_43 : decode cX9_closest 43 = .ok (.iinc 3 1, 3) := by decide +kernel
theorem dX9_closest_46 : decode cX9_closest 46 = .ok (.goto (-29), 3) := by decide +kernel
theorem dX9_closest_49 : decode cX9_closest 49 = .ok (.iinc 2 1, 3) := by decide +kernel
theorem dX9_closest_52 : decode cX9_closest 52 = .ok (.goto (-47), 3) := by decide +kernel
theorem dX9_closest_55 : decode cX9_closest 55 = .ok (.iload_n 1, 1) := by decide +kernel
theorem dX9_closest_56 : decode cX9_closest 56 = .ok (.bipush 64, 2) := by decide +kernel
theorem dX9_closest_58 : decode cX9_closest 58 = .ok (.if_icmp .le 12, 3) := by decide +kernel
theorem dX9_closest_61 : decode cX9_closest 61 = .ok (.aload_n 0, 1) := by decide +kernel
theorem dX9_closest_62 : decode cX9_closest 62 = .ok (.ldc 150, 2) := by decide +kernel
theorem dX9_closest_64 : decode cX9_closest 64 = .ok (.invokevirtual 84, 3) := by decide +kernel
theorem dX9_closest_67 : decode cX9_closest 67 = .ok (.goto 4, 3) := by decide +kernel
theorem dX9_closest_70 : decode cX9_closest 70 = .ok (.iload_n 1, 1) := by decide +kernel
theorem dX9_closest_71 : decode cX9_closest 71 = .ok (.ireturn, 1) := by decide +kernel
def w_m_painted : List Cond := .code yX9_painted cX9_painted 3 (some .int) :: (([.fieldLink RX9 16 "LampShapesModel" "pictures" "[J", .fieldLink RX9 9 "LampShapesModel" "now" "[I"] : List Cond) ++ wsX90)
set_option maxHeartbeats 4000000 in
set_option maxRecDepth 100000 in
theorem m_painted (l : Launch) (dC : Nat → ClassId) (dI : Nat → Nat → Nat) (ad : Nat → Nat) (h0 : Nat) (a : Int64) (a0 : Nat) (v1 : Value) (p0 : Nat) (v3 : Value) (v4 : Value) (v5 : Value) (v6 : Value) (v7 : Value) (v8 : Value) (v9 : Value) (v10 : Value) (v11 : Value) (v12 : Value) (v13 : Value) (v14 : Value) (v15 : Value) (v16 : Value) (v17 : Value) (v18 : Value) (v19 : Value) (v20 : Value) (v21 : Value) (v22 : Value) (v23 : Value) (v24 : Value) (v25 : Value) (v26 : Value) (v27 : Value) (ac : ClassId) (nf : Nat → Int32) (pc : ClassId) (pf : Nat → Int64) (sz : Nat) (hI : mI nf) (hn : (nf 1).toInt ≤ 6) : Met l yX9_painted w_m_painted ({ frames := 0, cells := 0, slots := 0, locals := 0 } : Room) (va_Pc [.ref h0, .long a] (preM dC dI ad [(ac, .int), (pc, .long)] [(h0, .inr (7, [.ref a0, v1, .ref p0, v3, v4, v5, v6, v7, v8, v9, v10, v11, v12, v13, v14, v15, v16, v17, v18, v19, v20, v21, v22, v23, v24, v25, v26, v27])), (a0, .inl (ac, 38, .inl nf)), (p0, .inl (pc, 7, .inr (.inl pf)))] sz)) (va_Qi (fun (r : Int32) (_ : Unit) => True) (fun _ t => ∃ (ng : Nat → Int32), ∃ (pg : Nat → Int64), (mI ng) ∧ ((ng 1).toInt = (nf 1).toInt + 1) ∧ ((ng 0).toInt = (nf 0).toInt ∧ (ng 2).toInt = (nf 2).toInt ∧ (ng 30).toInt = (nf 30).toInt ∧ (ng 31).toInt = (nf 31).toInt ∧ (ng 32).toInt = (nf 32).toInt ∧ (ng 33).toInt = (nf 33).toInt) ∧ va_P (dC, dI) vwCl [(h0, .inr (7, [.ref a0, v1, .ref p0, v3, v4, v5, v6, v7, v8, v9, v10, v11, v12, v13, v14, v15, v16, v17, v18, v19, v20, v21, v22, v23, v24, v25, v26, v27])), (a0, .inl (ac, 38, .inl ng)), (p0, .inl (pc, 7, .inr (.inl pg)))] t.heap ∧ va_K (dC, dI) vwCl [(ac, .int), (pc, .long)] t ∧ va_D (va_A [(h0, .inr (7, [.ref a0, v1, .ref p0, v3, v4, v5, v6, v7, v8, v9, v10, v11, v12, v13, v14, v15, v16, v17, v18, v19, v20, v21, v22, v23, v24, v25, v26, v27])), (a0, .inl (ac, 38, .inl nf)), (p0, .inl (pc, 7, .inr (.inl pf)))] sz) [(h0, .inr (7, [.ref a0, v1, .ref p0, v3, v4, v5, v6, v7, v8, v9, v10, v11, v12, v13, v14, v15, v16, v17, v18, v19, v20, v21, v22, v23, v24, v25, v26, v27])), (a0, .inl (ac, 38, .inl ng)), (p0, .inl (pc, 7, .inr (.inl pg)))]) (va_A [(h0, .inr (7, [.ref a0, v1, .ref p0, v3, v4, v5, v6, v7, v8, v9, v10, v11, v12, v13, v14, v15, v16, v17, v18, v19, v20, v21, v22, v23, v24, v25, v26, v27])), (a0, .inl (ac, 38, .inl nf)), (p0, .inl (pc, 7, .inr (.inl pf)))] sz)) 0 0 (va_A [(h0, .inr (7, [.ref a0, v1, .ref p0, v3, v4, v5, v6, v7, v8, v9, v10, v11, v12, v13, v14, v15, v16, v17, v18, v19, v20, v21, v22, v23, v24, v25, v26, v27])), (a0, .inl (ac, 38, .inl nf)), (p0, .inl (pc, 7, .inr (.inl pf)))] sz) := by
  refine Met.ofW (cc := cX9_painted) (maxL := 3) (ret := (some .int)) (by decide) rfl ?_
  intro p e s m args below meth c s₁ B hml hv
  obtain ⟨rfl, hsz, hP, hK, hD0, hev⟩ := hv
  have hx := B.exec
  have hb := B.bytes
  have hr := B.returns
  have hts := atoms_spec (ws := w_m_painted) B.pre
  have hown : s.vm.findClass RX9 = some m.cls := findClass_of_methodNamed B.named
  have hlocks := B.notSynchronized
  have inX9 : ∀ w ∈ wsX90, w ∈ w_m_painted := fun w h => List.mem_cons_of_mem _ (List.mem_append_right _ h)
  subst hsz
  have hD := hD0.self (sz := s.heap.size)
  generalize hAe : va_A [(h0, .inr (7, [.ref a0, v1, .ref p0, v3, v4, v5, v6, v7, v8, v9, v10, v11, v12, v13, v14, v15, v16, v17, v18, v19, v20, v21, v22, v23, v24, v25, v26, v27])), (a0, .inl (ac, 38, .inl nf)), (p0, .inl (pc, 7, .inr (.inl pf)))] s.heap.size = A at hD ⊢
  have hA : ∀ q : Nat, s.heap.size ≤ q → A q := fun q h => by rw [← hAe]; exact Or.inr h
  have hS : va_S A s.heap s.heap [] := va_S.rf
  have hP : va_P (dC, dI) vwCl [(h0, .inr (7, [.ref a0, v1, .ref p0, v3, v4, v5, v6, v7, v8, v9, v10, v11, v12, v13, v14, v15, v16, v17, v18, v19, v20, v21, v22, v23, v24, v25, v26, v27])), (a0, .inl (ac, 38, .inl nf)), (p0, .inl (pc, 7, .inr (.inl pf)))] s.heap := hP
  have hl := lv_entry ([.ref h0, .long a]) (n := 3) (Nat.le_of_ble_eq_true rfl)
  rw [lg_entry_eq]
  generalize (lg_sl ([.ref h0, .long a]) ++ List.replicate (3 - (lg_sl ([.ref h0, .long a])).length) Slot.unset).toArray = ls at hl ⊢
  have hl : lv_has ls 3 [(0, .ref h0), (1, .long a)] := hl
  refine lv_aload_n hx hb dX9_painted_0 rfl (lv_at hl 0 rfl) ?_
  refine va_get (D := (dC, dI)) (ci := 7) (v := .ref p0) (C := RX9) (T := TX9) (N := 28) hx hb hts inX9 hown hK hP 0 rfl rfl 2 (by decide) (hts _ (List.mem_of_getElem? (i := 1) rfl)) (fun _ h9 => h9) rfl dX9_painted_1 ?_
  refine lv_aload_n hx hb dX9_painted_4 rfl (lv_at hl 0 rfl) ?_
  refine va_get (D := (dC, dI)) (ci := 7) (v := .ref a0) (C := RX9) (T := TX9) (N := 28) hx hb hts inX9 hown hK hP 0 rfl rfl 0 (by decide) (hts _ (List.mem_of_getElem? (i := 2) rfl)) (fun _ h9 => h9) rfl dX9_painted_5 ?_
  refine lv_iconst (v := 1) hx hb dX9_painted_8 (by decide) ?_
  refine va_iald hx hb hK hP 1 0 rfl rfl (vp_in_nI (n := 1) (by decide) (by decide)) dX9_painted_9 ?_
  refine pp_ti (y := nf 1) rfl ?_
  refine lv_topi (fun n_1 en_1 => ?_)
  have tn_1 : n_1.toInt = (nf 1).toInt ∧ 0 ≤ n_1.toInt ∧ n_1.toInt ≤ 7 := mI_r1 hI en_1
  clear en_1
  refine lv_lload_n hx hb dX9_painted_10 rfl (lv_at hl 1 rfl) ?_
  refine va_last hx hb hK hP hD hS 2 1 rfl rfl (vp_in_iff.mpr ⟨by omega, by omega⟩) dX9_painted_11 (fun H locs hP hD hS => ?_)
  have hP : va_P (dC, dI) vwCl [(h0, .inr (7, [.ref a0, v1, .ref p0, v3, v4, v5, v6, v7, v8, v9, v10, v11, v12, v13, v14, v15, v16, v17, v18, v19, v20, v21, v22, v23, v24, v25, v26, v27])), (a0, .inl (ac, 38, .inl nf)), (p0, .inl (pc, 7, .inr (.inl (vp_updL pf n_1.toNatClampNeg a))))] H := hP
  have hD : va_D A [(h0, .inr (7, [.ref a0, v1, .ref p0, v3, v4, v5, v6, v7, v8, v9, v10, v11, v12, v13, v14, v15, v16, v17, v18, v19, v20, v21, v22, v23, v24, v25, v26, v27])), (a0, .inl (ac, 38, .inl nf)), (p0, .inl (pc, 7, .inr (.inl (vp_updL pf n_1.toNatClampNeg a))))] := hD
  refine lv_aload_n hx hb dX9_painted_12 rfl (lv_at hl 0 rfl) ?_
  refine va_get (D := (dC, dI)) (ci := 7) (v := .ref a0) (C := RX9) (T := TX9) (N := 28) hx hb hts inX9 hown hK hP 0 rfl rfl 0 (by decide) (hts _ (List.mem_of_getElem? (i := 2) rfl)) (fun _ h9 => h9) rfl dX9_painted_13 ?_
  refine lv_iconst (v := 1) hx hb dX9_painted_16 (by decide) ?_
  refine lv_dup2_11 hx hb dX9_painted_17 rfl rfl ?_
  refine va_iald hx hb hK hP 1 0 rfl rfl (vp_in_nI (n := 1) (by decide) (by decide)) dX9_painted_18 ?_
  refine pp_ti (y := nf 1) rfl ?_
  refine lv_topi (fun n_2 en_2 => ?_)
  have tn_2 : n_2.toInt = (nf 1).toInt ∧ 0 ≤ n_2.toInt ∧ n_2.toInt ≤ 7 := mI_r1 hI en_2
  clear en_2
  refine lv_iconst (v := 1) hx hb dX9_painted_19 (by decide) ?_
  refine lv_iadd hx hb dX9_painted_20 ?_
  refine lv_topi (fun n_3 en_3 => ?_)
  have tn_3 : n_3.toInt = n_2.toInt + 1 := pp_add en_3 rfl rfl (by omega) (by omega)
  clear en_3
  refine va_iast hx hb hK hP hD hS 1 0 rfl rfl (vp_in_nI (n := 1) (by decide) (by decide)) dX9_painted_21 (fun H locs hP hD hS => ?_)
  have hP : va_P (dC, dI) vwCl [(h0, .inr (7, [.ref a0, v1, .ref p0, v3, v4, v5, v6, v7, v8, v9, v10, v11, v12, v13, v14, v15, v16, v17, v18, v19, v20, v21, v22, v23, v24, v25, v26, v27])), (a0, .inl (ac, 38, .inl (upd nf 1 n_3))), (p0, .inl (pc, 7, .inr (.inl (vp_updL pf n_1.toNatClampNeg a))))] H := hP
  have hD : va_D A [(h0, .inr (7, [.ref a0, v1, .ref p0, v3, v4, v5, v6, v7, v8, v9, v10, v11, v12, v13, v14, v15, v16, v17, v18, v19, v20, v21, v22, v23, v24, v25, v26, v27])), (a0, .inl (ac, 38, .inl (upd nf 1 n_3))), (p0, .inl (pc, 7, .inr (.inl (vp_updL pf n_1.toNatClampNeg a))))] := hD
  have q_5 : ((upd nf 1 n_3) 0).toInt = (nf 0).toInt := pp_uN_ne (by decide)
  have q_6 : ((upd nf 1 n_3) 1).toInt = n_3.toInt := pp_uN_eq rfl
  have q_7 : ((upd nf 1 n_3) 2).toInt = (nf 2).toInt := pp_uN_ne (by decide)
  have q_8 : ((upd nf 1 n_3) 30).toInt = (nf 30).toInt := pp_uN_ne (by decide)
  have q_9 : ((upd nf 1 n_3) 31).toInt = (nf 31).toInt := pp_uN_ne (by decide)
  have q_10 : ((upd nf 1 n_3) 32).toInt = (nf 32).toInt := pp_uN_ne (by decide)
  have q_11 : ((upd nf 1 n_3) 33).toInt = (nf 33).toInt := pp_uN_ne (by decide)
  have hI_12 : mI (upd nf 1 n_3) := mI_01 hI (by have := mI_b hI; omega) (by have := mI_b hI; omega) (by omega) (by omega) (by omega) (by omega)
  generalize upd nf 1 n_3 = f_4 at hP hD q_5 q_6 q_7 q_8 q_9 q_10 q_11 hI_12
  have hP : va_P (dC, dI) vwCl [(h0, .inr (7, [.ref a0, v1, .ref p0, v3, v4, v5, v6, v7, v8, v9, v10, v11, v12, v13, v14, v15, v16, v17, v18, v19, v20, v21, v22, v23, v24, v25, v26, v27])), (a0, .inl (ac, 38, .inl f_4)), (p0, .inl (pc, 7, .inr (.inl (vp_updL pf n_1.toNatClampNeg a))))] H := hP
  have hD : va_D A [(h0, .inr (7, [.ref a0, v1, .ref p0, v3, v4, v5, v6, v7, v8, v9, v10, v11, v12, v13, v14, v15, v16, v17, v18, v19, v20, v21, v22, v23, v24, v25, v26, v27])), (a0, .inl (ac, 38, .inl f_4)), (p0, .inl (pc, 7, .inr (.inl (vp_updL pf n_1.toNatClampNeg a))))] := hD
  refine lv_aload_n hx hb dX9_painted_22 rfl (lv_at hl 0 rfl) ?_
  refine va_get (D := (dC, dI)) (ci := 7) (v := .ref a0) (C := RX9) (T := TX9) (N := 28) hx hb hts inX9 hown hK hP 0 rfl rfl 0 (by decide) (hts _ (List.mem_of_getElem? (i := 2) rfl)) (fun _ h9 => h9) rfl dX9_painted_23 ?_
  refine lv_iconst (v := 1) hx hb dX9_painted_26 (by decide) ?_
  refine va_iald hx hb hK hP 1 0 rfl rfl (vp_in_nI (n := 1) (by decide) (by decide)) dX9_painted_27 ?_
  refine pp_ti (y := f_4 1) rfl ?_
  refine lv_topi (fun n_13 en_13 => ?_)
  have tn_13 : n_13.toInt = (f_4 1).toInt ∧ 0 ≤ n_13.toInt ∧ n_13.toInt ≤ 7 := mI_r1 hI_12 en_13
  clear en_13
  refine lv_iconst (v := 1) hx hb dX9_painted_28 (by decide) ?_
  refine lv_isub hx hb dX9_painted_29 ?_
  refine lv_topi (fun n_14 en_14 => ?_)
  have tn_14 : n_14.toInt = n_13.toInt - 1 := pp_sub en_14 rfl rfl (by omega) (by omega)
  clear en_14
  have hP9 := hP.sub (ws' := [(h0, .inr (7, [.ref a0, v1, .ref p0, v3, v4, v5, v6, v7, v8, v9, v10, v11, v12, v13, v14, v15, v16, v17, v18, v19, v20, v21, v22, v23, v24, v25, v26, v27])), (a0, .inl (ac, 38, .inl f_4)), (p0, .inl (pc, 7, .inr (.inl (vp_updL pf n_1.toNatClampNeg a))))]) [0, 1, 2] rfl
  have hD9 := hD.sub (ws' := [(h0, .inr (7, [.ref a0, v1, .ref p0, v3, v4, v5, v6, v7, v8, v9, v10, v11, v12, v13, v14, v15, v16, v17, v18, v19, v20, v21, v22, v23, v24, v25, v26, v27])), (a0, .inl (ac, 38, .inl f_4)), (p0, .inl (pc, 7, .inr (.inl (vp_updL pf n_1.toNatClampNeg a))))]) [0, 1, 2] (by decide) rfl
  have hK9 := hK.sub (tys' := [(ac, .int), (pc, .long)]) [0, 1] rfl
  exact W.iret (v := n_14) hx hb hr (fun t ht hW => ⟨⟨n_14, (), rfl, trivial, f_4, vp_updL pf n_1.toNatClampNeg a, hI_12, (by first | omega | decide | (simp only [fa_lt, fa_le, fa_eq, and_true, true_and, and_false, false_and, not_true_eq_false, not_false_eq_true, li_0, li_1, li_2, li_3, li_4, li_5, li_6, li_7, li_8, li_9, li_10, li_12, li_15, li_16, li_20, li_30, li_34, li_38, li_40, li_63, li_64, li_65, li_78, li_120, li_1000, li_4000, li_10000, li_11077, li_255, li_65535, li_m1, li_m2, li_m1000000001, li_m1000000002, li_m1000000003, li_m1000000004, li_m1000000005, li_m1000000006, li_m1000000007, or_true, true_or, or_false, false_or, implies_true, true_implies, false_implies] <;> omega)), (by first | omega | decide | (simp only [fa_lt, fa_le, fa_eq, and_true, true_and, and_false, false_and, not_true_eq_false, not_false_eq_true, li_0, li_1, li_2, li_3, li_4, li_5, li_6, li_7, li_8, li_9, li_10, li_12, li_15, li_16, li_20, li_30, li_34, li_38, li_40, li_63, li_64, li_65, li_78, li_120, li_1000, li_4000, li_10000, li_11077, li_255, li_65535, li_m1, li_m2, li_m1000000001, li_m1000000002, li_m1000000003, li_m1000000004, li_m1000000005, li_m1000000006, li_m1000000007, or_true, true_or, or_false, false_or, implies_true, true_implies, false_implies] <;> omega)), by rw [ht]; exact hP9, va_K.moved hW.alike hK9, hD9⟩, hS.F ht⟩) hS.2.2 dX9_painted_30

def w_m_scene : List Cond := .code yX9_scene cX9_scene 3 (some .int) :: (([.fieldLink RX9 9 "LampShapesModel" "now" "[I", .methodLink RX9 151 yX9_painted, .instanceMethod yX9_painted, .selects RX9 yX9_painted yX9_painted, .initialized RX9, .code yX9_painted cX9_painted 3 (some .int), .fieldLink RX9 16 "LampShapesModel" "pictures" "[J", .constant RX9 88 (-1000000002), .methodLink RX9 84 yX9_finding, .instanceMethod yX9_finding, .selects RX9 yX9_finding yX9_finding, .code yX9_finding cX9_finding 2 (some .int), .fieldLink RX9 23 "LampShapesModel" "found" "[I", .constant RX9 74 (-1000000001)] : List Cond) ++ wsX90)
set_option maxRecDepth 20000 in
theorem g_m_scene_m_painted_151 : GoodIn w_m_scene (wsV RX9 151 RX9 yX9_painted w_m_painted) := goodIn_r _ [2, 3, 4, 5, 6, 7, 1, 15, 16, 17, 18, 19, 20, 21, 22, 23, 24, 25, 26, 27, 28, 29, 30, 31, 32, 33, 34, 35, 36, 37, 38, 39, 40, 41, 42] rfl (by decide +kernel)
set_option maxRecDepth 20000 in
theorem g_m_scene_mf_full_84 : GoodIn w_m_scene (wsV RX9 84 RX9 yX9_finding w_mf_full) := goodIn_r _ [9, 10, 11, 5, 12, 13, 14, 15, 16, 17, 18, 19, 20, 21, 22, 23, 24, 25, 26, 27, 28, 29, 30, 31, 32, 33, 34, 35, 36, 37, 38, 39, 40, 41, 42] rfl (by decide +kernel)
set_option maxHeartbeats 4000000 in
set_option maxRecDepth 100000 in
theorem m_scene (l : Launch) (dC : Nat → ClassId) (dI : Nat → Nat → Nat) (ad : Nat → Nat) (h0 : Nat) (a : Int64) (a0 : Nat) (v1 : Value) (p0 : Nat) (v3 : Value) (v4 : Value) (t0 : Nat) (v6 : Value) (v7 : Value) (v8 : Value) (v9 : Value) (v10 : Value) (v11 : Value) (v12 : Value) (v13 : Value) (v14 : Value) (v15 : Value) (v16 : Value) (v17 : Value) (v18 : Value) (v19 : Value) (v20 : Value) (v21 : Value) (v22 : Value) (v23 : Value) (v24 : Value) (v25 : Value) (v26 : Value) (v27 : Value) (tc : ClassId) (tf : Nat → Int32) (ac : ClassId) (nf : Nat → Int32) (pc : ClassId) (pf : Nat → Int64) (sz : Nat) (hI : mI nf) : Met l yX9_scene w_m_scene ({ frames := 1, cells := 0, slots := 0, locals := 22 } : Room) (va_Pc [.ref h0, .long a] (preM dC dI ad [(tc, .int), (ac, .int), (pc, .long)] [(h0, .inr (7, [.ref a0, v1, .ref p0, v3, v4, .ref t0, v6, v7, v8, v9, v10, v11, v12, v13, v14, v15, v16, v17, v18, v19, v20, v21, v22, v23, v24, v25, v26, v27])), (t0, .inl (tc, 8, .inl tf)), (a0, .inl (ac, 38, .inl nf)), (p0, .inl (pc, 7, .inr (.inl pf)))] sz)) (va_Qi (fun (r : Int32) (_ : Unit) => True) (fun _ t => ∃ (tg : Nat → Int32), ∃ (ng : Nat → Int32), ∃ (pg : Nat → Int64), (mI ng) ∧ ((ng 2).toInt = (nf 2).toInt) ∧ va_P (dC, dI) vwCl [(h0, .inr (7, [.ref a0, v1, .ref p0, v3, v4, .ref t0, v6, v7, v8, v9, v10, v11, v12, v13, v14, v15, v16, v17, v18, v19, v20, v21, v22, v23, v24, v25, v26, v27])), (t0, .inl (tc, 8, .inl tg)), (a0, .inl (ac, 38, .inl ng)), (p0, .inl (pc, 7, .inr (.inl pg)))] t.heap ∧ va_K (dC, dI) vwCl [(tc, .int), (ac, .int), (pc, .long)] t ∧ va_D (va_A [(h0, .inr (7, [.ref a0, v1, .ref p0, v3, v4, .ref t0, v6, v7, v8, v9, v10, v11, v12, v13, v14, v15, v16, v17, v18, v19, v20, v21, v22, v23, v24, v25, v26, v27])), (t0, .inl (tc, 8, .inl tf)), (a0, .inl (ac, 38, .inl nf)), (p0, .inl (pc, 7, .inr (.inl pf)))] sz) [(h0, .inr (7, [.ref a0, v1, .ref p0, v3, v4, .ref t0, v6, v7, v8, v9, v10, v11, v12, v13, v14, v15, v16, v17, v18, v19, v20, v21, v22, v23, v24, v25, v26, v27])), (t0, .inl (tc, 8, .inl tg)), (a0, .inl (ac, 38, .inl ng)), (p0, .inl (pc, 7, .inr (.inl pg)))]) (va_A [(h0, .inr (7, [.ref a0, v1, .ref p0, v3, v4, .ref t0, v6, v7, v8, v9, v10, v11, v12, v13, v14, v15, v16, v17, v18, v19, v20, v21, v22, v23, v24, v25, v26, v27])), (t0, .inl (tc, 8, .inl tf)), (a0, .inl (ac, 38, .inl nf)), (p0, .inl (pc, 7, .inr (.inl pf)))] sz)) 0 0 (va_A [(h0, .inr (7, [.ref a0, v1, .ref p0, v3, v4, .ref t0, v6, v7, v8, v9, v10, v11, v12, v13, v14, v15, v16, v17, v18, v19, v20, v21, v22, v23, v24, v25, v26, v27])), (t0, .inl (tc, 8, .inl tf)), (a0, .inl (ac, 38, .inl nf)), (p0, .inl (pc, 7, .inr (.inl pf)))] sz) := by
  refine Met.ofW (cc := cX9_scene) (maxL := 3) (ret := (some .int)) (by decide) rfl ?_
  intro p e s m args below meth c s₁ B hml hv
  obtain ⟨rfl, hsz, hP, hK, hD0, hev⟩ := hv
  have hx := B.exec
  have hb := B.bytes
  have hr := B.returns
  have hts := atoms_spec (ws := w_m_scene) B.pre
  have hown : s.vm.findClass RX9 = some m.cls := findClass_of_methodNamed B.named
  have hlocks := B.notSynchronized
  have inX9 : ∀ w ∈ wsX90, w ∈ w_m_scene := fun w h => List.mem_cons_of_mem _ (List.mem_append_right _ h)
  subst hsz
  have hD := hD0.self (sz := s.heap.size)
  generalize hAe : va_A [(h0, .inr (7, [.ref a0, v1, .ref p0, v3, v4, .ref t0, v6, v7, v8, v9, v10, v11, v12, v13, v14, v15, v16, v17, v18, v19, v20, v21, v22, v23, v24, v25, v26, v27])), (t0, .inl (tc, 8, .inl tf)), (a0, .inl (ac, 38, .inl nf)), (p0, .inl (pc, 7, .inr (.inl pf)))] s.heap.size = A at hD ⊢
  have hA : ∀ q : Nat, s.heap.size ≤ q → A q := fun q h => by rw [← hAe]; exact Or.inr h
  have hS : va_S A s.heap s.heap [] := va_S.rf
  have hP : va_P (dC, dI) vwCl [(h0, .inr (7, [.ref a0, v1, .ref p0, v3, v4, .ref t0, v6, v7, v8, v9, v10, v11, v12, v13, v14, v15, v16, v17, v18, v19, v20, v21, v22, v23, v24, v25, v26, v27])), (t0, .inl (tc, 8, .inl tf)), (a0, .inl (ac, 38, .inl nf)), (p0, .inl (pc, 7, .inr (.inl pf)))] s.heap := hP
  have hl := lv_entry ([.ref h0, .long a]) (n := 3) (Nat.le_of_ble_eq_true rfl)
  rw [lg_entry_eq]
  generalize (lg_sl ([.ref h0, .long a]) ++ List.replicate (3 - (lg_sl ([.ref h0, .long a])).length) Slot.unset).toArray = ls at hl ⊢
  have hl : lv_has ls 3 [(0, .ref h0), (1, .long a)] := hl
  refine lv_aload_n hx hb dX9_scene_0 rfl (lv_at hl 0 rfl) ?_
  refine va_get (D := (dC, dI)) (ci := 7) (v := .ref a0) (C := RX9) (T := TX9) (N := 28) hx hb hts inX9 hown hK hP 0 rfl rfl 0 (by decide) (hts _ (List.mem_of_getElem? (i := 1) rfl)) (fun _ h9 => h9) rfl dX9_scene_1 ?_
  refine lv_iconst (v := 1) hx hb dX9_scene_4 (by decide) ?_
  refine va_iald hx hb hK hP 2 1 rfl rfl (vp_in_nI (n := 1) (by decide) (by decide)) dX9_scene_5 ?_
  refine pp_ti (y := nf 1) rfl ?_
  refine lv_topi (fun n_1 en_1 => ?_)
  have tn_1 : n_1.toInt = (nf 1).toInt ∧ 0 ≤ n_1.toInt ∧ n_1.toInt ≤ 7 := mI_r1 hI en_1
  clear en_1
  refine lv_bipush (v := 7) hx hb dX9_scene_6 (by decide) ?_
  refine lv_icmp_ne (tgt := 20) hx hb dX9_scene_8 (by decide) (fun c_2 => ?_) (fun c_2 => ?_)
  · skip
    have tc_2 : ¬ n_1.toInt = 7 := fun h => c_2 ((fa_eq _ _).mpr h)
    refine lv_aload_n hx hb dX9_scene_20 rfl (lv_at hl 0 rfl) ?_
    refine lv_lload_n hx hb dX9_scene_21 rfl (lv_at hl 1 rfl) ?_
    have hPc := hP.sub (ws' := [(h0, .inr (7, [.ref a0, v1, .ref p0, v3, v4, .ref t0, v6, v7, v8, v9, v10, v11, v12, v13, v14, v15, v16, v17, v18, v19, v20, v21, v22, v23, v24, v25, v26, v27])), (a0, .inl (ac, 38, .inl nf)), (p0, .inl (pc, 7, .inr (.inl pf)))]) [0, 2, 3] rfl
    have hKc := hK.sub (tys' := [(ac, .int), (pc, .long)]) [1, 2] rfl
    have hDc := hD.sub (ws' := [(h0, .inr (7, [.ref a0, v1, .ref p0, v3, v4, .ref t0, v6, v7, v8, v9, v10, v11, v12, v13, v14, v15, v16, v17, v18, v19, v20, v21, v22, v23, v24, v25, v26, v27])), (a0, .inl (ac, 38, .inl nf)), (p0, .inl (pc, 7, .inr (.inl pf)))]) [0, 2, 3] (by decide) rfl
    have hFc := va_free (wc := [(h0, .inr (7, [.ref a0, v1, .ref p0, v3, v4, .ref t0, v6, v7, v8, v9, v10, v11, v12, v13, v14, v15, v16, v17, v18, v19, v20, v21, v22, v23, v24, v25, v26, v27])), (a0, .inl (ac, 38, .inl nf)), (p0, .inl (pc, 7, .inr (.inl pf)))]) hD hS hA [0, 2, 3] rfl
    refine va_calli (va_runV (As := [.long a]) (rest := []) ⟨hx, hb, hml, hown, hts⟩ (m_painted l dC dI ad h0 a a0 v1 p0 v3 v4 (.ref t0) v6 v7 v8 v9 v10 v11 v12 v13 v14 v15 v16 v17 v18 v19 v20 v21 v22 v23 v24 v25 v26 v27 ac nf pc pf s.heap.size hI (by first | omega | decide | (simp only [fa_lt, fa_le, fa_eq, and_true, true_and, and_false, false_and, not_true_eq_false, not_false_eq_true, li_0, li_1, li_2, li_3, li_4, li_5, li_6, li_7, li_8, li_9, li_10, li_12, li_15, li_16, li_20, li_30, li_34, li_38, li_40, li_63, li_64, li_65, li_78, li_120, li_1000, li_4000, li_10000, li_11077, li_255, li_65535, li_m1, li_m2, li_m1000000001, li_m1000000002, li_m1000000003, li_m1000000004, li_m1000000005, li_m1000000006, li_m1000000007, or_true, true_or, or_false, false_or, implies_true, true_implies, false_implies] <;> omega))) (cwV 1 hts g_m_scene_m_painted_151 rfl rfl rfl (by decide +kernel) ⟨(Nat.le_of_ble_eq_true rfl), (Nat.le_of_ble_eq_true rfl)⟩) ⟨preM_blind, va_recv hKc hPc (ci := 7) (q0 := 0) rfl rfl, fun U hU hW => ⟨rfl, preM_at hU hW hPc hKc hDc hev⟩⟩ rfl rfl hl.1 rfl (lv_room (Nat.le_of_ble_eq_true rfl)) dX9_scene_22 ⟨(Nat.le_of_ble_eq_true rfl), (Nat.le_of_ble_eq_true rfl)⟩) hS (fun q _ h => hFc q h) hFc (fun r_3 u t H1 locs ht hvm hw hB hz1 hk1 hS => ?_)
    obtain ⟨ng_4, pg_5, hq_6, hq_7, hq_8, hP1, hK1, hD1⟩ := hB
    rw [ht] at hP1
    have hK1 := va_K.moved hvm.symm hK1
    obtain ⟨hP, hD⟩ := va_join (wr := [(t0, .inl (tc, 8, .inl tf))]) (w1 := [(h0, .inr (7, [.ref a0, v1, .ref p0, v3, v4, .ref t0, v6, v7, v8, v9, v10, v11, v12, v13, v14, v15, v16, v17, v18, v19, v20, v21, v22, v23, v24, v25, v26, v27])), (a0, .inl (ac, 38, .inl ng_4)), (p0, .inl (pc, 7, .inr (.inl pg_5)))]) hP hD [0, 2, 3] [1] rfl rfl (by decide) (by decide) hk1 hFc hP1 hD1
    generalize H1 = H at hP hS ⊢
    have hP : va_P (dC, dI) vwCl [(t0, .inl (tc, 8, .inl tf)), (h0, .inr (7, [.ref a0, v1, .ref p0, v3, v4, .ref t0, v6, v7, v8, v9, v10, v11, v12, v13, v14, v15, v16, v17, v18, v19, v20, v21, v22, v23, v24, v25, v26, v27])), (a0, .inl (ac, 38, .inl ng_4)), (p0, .inl (pc, 7, .inr (.inl pg_5)))] H := hP
    have hD : va_D A [(t0, .inl (tc, 8, .inl tf)), (h0, .inr (7, [.ref a0, v1, .ref p0, v3, v4, .ref t0, v6, v7, v8, v9, v10, v11, v12, v13, v14, v15, v16, v17, v18, v19, v20, v21, v22, v23, v24, v25, v26, v27])), (a0, .inl (ac, 38, .inl ng_4)), (p0, .inl (pc, 7, .inr (.inl pg_5)))] := hD
    have hP9 := hP.sub (ws' := [(h0, .inr (7, [.ref a0, v1, .ref p0, v3, v4, .ref t0, v6, v7, v8, v9, v10, v11, v12, v13, v14, v15, v16, v17, v18, v19, v20, v21, v22, v23, v24, v25, v26, v27])), (t0, .inl (tc, 8, .inl tf)), (a0, .inl (ac, 38, .inl ng_4)), (p0, .inl (pc, 7, .inr (.inl pg_5)))]) [1, 0, 2, 3] rfl
    have hD9 := hD.sub (ws' := [(h0, .inr (7, [.ref a0, v1, .ref p0, v3, v4, .ref t0, v6, v7, v8, v9, v10, v11, v12, v13, v14, v15, v16, v17, v18, v19, v20, v21, v22, v23, v24, v25, v26, v27])), (t0, .inl (tc, 8, .inl tf)), (a0, .inl (ac, 38, .inl ng_4)), (p0, .inl (pc, 7, .inr (.inl pg_5)))]) [1, 0, 2, 3] (by decide) rfl
    have hK9 := hK.sub (tys' := [(tc, .int), (ac, .int), (pc, .long)]) [0, 1, 2] rfl
    exact W.iret (v := r_3) hx hb hr (fun t ht hW => ⟨⟨r_3, (), rfl, trivial, tf, ng_4, pg_5, hq_6, (by first | omega | decide | (simp only [fa_lt, fa_le, fa_eq, and_true, true_and, and_false, false_and, not_true_eq_false, not_false_eq_true, li_0, li_1, li_2, li_3, li_4, li_5, li_6, li_7, li_8, li_9, li_10, li_12, li_15, li_16, li_20, li_30, li_34, li_38, li_40, li_63, li_64, li_65, li_78, li_120, li_1000, li_4000, li_10000, li_11077, li_255, li_65535, li_m1, li_m2, li_m1000000001, li_m1000000002, li_m1000000003, li_m1000000004, li_m1000000005, li_m1000000006, li_m1000000007, or_true, true_or, or_false, false_or, implies_true, true_implies, false_implies] <;> omega)), by rw [ht]; exact hP9, va_K.moved hW.alike hK9, hD9⟩, hS.F ht⟩) hS.2.2 dX9_scene_25
  · skip
    have tc_2 : n_1.toInt = 7 := (fa_eq _ _).mp c_2
    refine lv_aload_n hx hb dX9_scene_11 rfl (lv_at hl 0 rfl) ?_
    refine lv_ldc hx hb hown (hts _ (List.mem_of_getElem? (i := 8) rfl)) dX9_scene_12 ?_
    have hPc := hP.sub (ws' := [(h0, .inr (7, [.ref a0, v1, .ref p0, v3, v4, .ref t0, v6, v7, v8, v9, v10, v11, v12, v13, v14, v15, v16, v17, v18, v19, v20, v21, v22, v23, v24, v25, v26, v27])), (t0, .inl (tc, 8, .inl tf))]) [0, 1] rfl
    have hKc := hK.sub (tys' := [(tc, .int)]) [0] rfl
    have hDc := hD.sub (ws' := [(h0, .inr (7, [.ref a0, v1, .ref p0, v3, v4, .ref t0, v6, v7, v8, v9, v10, v11, v12, v13, v14, v15, v16, v17, v18, v19, v20, v21, v22, v23, v24, v25, v26, v27])), (t0, .inl (tc, 8, .inl tf))]) [0, 1] (by decide) rfl
    have hFc := va_free (wc := [(h0, .inr (7, [.ref a0, v1, .ref p0, v3, v4, .ref t0, v6, v7, v8, v9, v10, v11, v12, v13, v14, v15, v16, v17, v18, v19, v20, v21, v22, v23, v24, v25, v26, v27])), (t0, .inl (tc, 8, .inl tf))]) hD hS hA [0, 1] rfl
    refine va_calli (va_runV (As := [.int (-1000000002)]) (rest := []) ⟨hx, hb, hml, hown, hts⟩ (mf_full l dC dI ad h0 (.ref a0) v1 (.ref p0) v3 v4 t0 v6 v7 v8 v9 v10 v11 v12 v13 v14 v15 v16 v17 v18 v19 v20 v21 v22 v23 v24 v25 v26 v27 tc tf s.heap.size ) (cwV 1 hts g_m_scene_mf_full_84 rfl rfl rfl (by decide +kernel) ⟨(Nat.le_of_ble_eq_true rfl), (Nat.le_of_ble_eq_true rfl)⟩) ⟨preM_blind, va_recv hKc hPc (ci := 7) (q0 := 0) rfl rfl, fun U hU hW => ⟨rfl, preM_at hU hW hPc hKc hDc hev⟩⟩ rfl rfl hl.1 rfl (lv_room (Nat.le_of_ble_eq_true rfl)) dX9_scene_14 ⟨(Nat.le_of_ble_eq_true rfl), (Nat.le_of_ble_eq_true rfl)⟩) hS (fun q _ h => hFc q h) hFc (fun r_9 u t H1 locs ht hvm hw hB hz1 hk1 hS => ?_)
    obtain ⟨tg_10, hP1, hK1, hD1⟩ := hB
    rw [ht] at hP1
    have hK1 := va_K.moved hvm.symm hK1
    obtain ⟨hP, hD⟩ := va_join (wr := [(a0, .inl (ac, 38, .inl nf)), (p0, .inl (pc, 7, .inr (.inl pf)))]) (w1 := [(h0, .inr (7, [.ref a0, v1, .ref p0, v3, v4, .ref t0, v6, v7, v8, v9, v10, v11, v12, v13, v14, v15, v16, v17, v18, v19, v20, v21, v22, v23, v24, v25, v26, v27])), (t0, .inl (tc, 8, .inl tg_10))]) hP hD [0, 1] [2, 3] rfl rfl (by decide) (by decide) hk1 hFc hP1 hD1
    generalize H1 = H at hP hS ⊢
    have hP : va_P (dC, dI) vwCl [(a0, .inl (ac, 38, .inl nf)), (p0, .inl (pc, 7, .inr (.inl pf))), (h0, .inr (7, [.ref a0, v1, .ref p0, v3, v4, .ref t0, v6, v7, v8, v9, v10, v11, v12, v13, v14, v15, v16, v17, v18, v19, v20, v21, v22, v23, v24, v25, v26, v27])), (t0, .inl (tc, 8, .inl tg_10))] H := hP
    have hD : va_D A [(a0, .inl (ac, 38, .inl nf)), (p0, .inl (pc, 7, .inr (.inl pf))), (h0, .inr (7, [.ref a0, v1, .ref p0, v3, v4, .ref t0, v6, v7, v8, v9, v10, v11, v12, v13, v14, v15, v16, v17, v18, v19, v20, v21, v22, v23, v24, v25, v26, v27])), (t0, .inl (tc, 8, .inl tg_10))] := hD
    subst hw
    refine lv_goto (tgt := 25) hx hb dX9_scene_17 (by decide) ?_
    have hP9 := hP.sub (ws' := [(h0, .inr (7, [.ref a0, v1, .ref p0, v3, v4, .ref t0, v6, v7, v8, v9, v10, v11, v12, v13, v14, v15, v16, v17, v18, v19, v20, v21, v22, v23, v24, v25, v26, v27])), (t0, .inl (tc, 8, .inl tg_10)), (a0, .inl (ac, 38, .inl nf)), (p0, .inl (pc, 7, .inr (.inl pf)))]) [2, 3, 0, 1] rfl
    have hD9 := hD.sub (ws' := [(h0, .inr (7, [.ref a0, v1, .ref p0, v3, v4, .ref t0, v6, v7, v8, v9, v10, v11, v12, v13, v14, v15, v16, v17, v18, v19, v20, v21, v22, v23, v24, v25, v26, v27])), (t0, .inl (tc, 8, .inl tg_10)), (a0, .inl (ac, 38, .inl nf)), (p0, .inl (pc, 7, .inr (.inl pf)))]) [2, 3, 0, 1] (by decide) rfl
    have hK9 := hK.sub (tys' := [(tc, .int), (ac, .int), (pc, .long)]) [0, 1, 2] rfl
    exact W.iret (v := ((-1000000002) : Int32)) hx hb hr (fun t ht hW => ⟨⟨((-1000000002) : Int32), (), rfl, trivial, tg_10, nf, pf, hI, (by first | omega | decide | (simp only [fa_lt, fa_le, fa_eq, and_true, true_and, and_false, false_and, not_true_eq_false, not_false_eq_true, li_0, li_1, li_2, li_3, li_4, li_5, li_6, li_7, li_8, li_9, li_10, li_12, li_15, li_16, li_20, li_30, li_34, li_38, li_40, li_63, li_64, li_65, li_78, li_120, li_1000, li_4000, li_10000, li_11077, li_255, li_65535, li_m1, li_m2, li_m1000000001, li_m1000000002, li_m1000000003, li_m1000000004, li_m1000000005, li_m1000000006, li_m1000000007, or_true, true_or, or_false, false_or, implies_true, true_implies, false_implies] <;> omega)), by rw [ht]; exact hP9, va_K.moved hW.alike hK9, hD9⟩, hS.F ht⟩) hS.2.2 dX9_scene_25

def w_m_draw : List Cond := .code yX9_draw cX9_draw 3 (some .int) :: (([.methodLink RX9 155 yX9_isScene, .instanceMethod yX9_isScene, .selects RX9 yX9_isScene yX9_isScene, .initialized RX9, .code yX9_isScene cX9_isScene 2 (some .boolean), .fieldLink RX9 9 "LampShapesModel" "now" "[I", .methodLink RX9 75 yX9_within, .static yX9_within, .code yX9_within cX9_within 3 (some .boolean), .fieldLink RX9 16 "LampShapesModel" "pictures" "[J", .methodLink RX9 146 yX9_dark, .instanceMethod yX9_dark, .selects RX9 yX9_dark yX9_dark, .code yX9_dark cX9_dark 1 (some .long), .methodLink RX9 141 yX9_darkBut, .instanceMethod yX9_darkBut, .selects RX9 yX9_darkBut yX9_darkBut, .code yX9_darkBut cX9_darkBut 5 (some .long), .methodLink RX9 137 yX9_shadowIn, .instanceMethod yX9_shadowIn, .selects RX9 yX9_shadowIn yX9_shadowIn, .code yX9_shadowIn cX9_shadowIn 3 (some .long), .methodLink RX9 99 yX9_shapeIs, .instanceMethod yX9_shapeIs, .selects RX9 yX9_shapeIs yX9_shapeIs, .code yX9_shapeIs cX9_shapeIs 3 (some .int), .methodLink RX9 129 yX9_shadowOf, .instanceMethod yX9_shadowOf, .selects RX9 yX9_shadowOf yX9_shadowOf, .code yX9_shadowOf cX9_shadowOf 11 (some .long), .methodLink RX9 122 yX9_throwsOf, .static yX9_throwsOf, .code yX9_throwsOf cX9_throwsOf 8 (some .int), .methodLink RX9 112 yX9_mirrored, .static yX9_mirrored, .code yX9_mirrored cX9_mirrored 5 (some .int), .methodLink RX9 109 yX9_has, .static yX9_has, .code yX9_has cX9_has 3 (some .boolean), .methodLink RX9 114 yX9_turned, .static yX9_turned, .code yX9_turned cX9_turned 7 (some .int), .methodLink RX9 119 yX9_isBetween, .static yX9_isBetween, .code yX9_isBetween cX9_isBetween 6 (some .boolean), .methodLink RX9 116 yX9_isInner, .static yX9_isInner, .code yX9_isInner cX9_isInner 3 (some .boolean), .methodLink RX9 158 yX9_bits, .static yX9_bits, .code yX9_bits cX9_bits 5 (some .int), .constant RX9 74 (-1000000001), .methodLink RX9 84 yX9_finding, .instanceMethod yX9_finding, .selects RX9 yX9_finding yX9_finding, .code yX9_finding cX9_finding 2 (some .int), .fieldLink RX9 23 "LampShapesModel" "found" "[I"] : List Cond) ++ wsX90)
set_option maxRecDepth 20000 in
theorem g_m_draw_m_isScene_155 : GoodIn w_m_draw (wsV RX9 155 RX9 yX9_isScene w_m_isScene) := goodIn_r _ [1, 2, 3, 4, 5, 6, 7, 8, 4, 9, 58, 59, 60, 61, 62, 63, 64, 65, 66, 67, 68, 69, 70, 71, 72, 73, 74, 75, 76, 77, 78, 79, 80, 81, 82, 83, 84, 85] rfl (by decide +kernel)
set_option maxRecDepth 20000 in
theorem g_m_draw_m_dark_146 : GoodIn w_m_draw (wsV RX9 146 RX9 yX9_dark w_m_dark) := goodIn_r _ [11, 12, 13, 4, 14, 15, 16, 17, 4, 18, 19, 20, 21, 22, 6, 23, 24, 25, 26, 27, 28, 29, 30, 31, 32, 33, 34, 35, 36, 37, 38, 39, 7, 8, 9, 40, 41, 42, 43, 44, 45, 46, 47, 48, 58, 59, 60, 61, 62, 63, 64, 65, 66, 67, 68, 69, 70, 71, 72, 73, 74, 75, 76, 77, 78, 79, 80, 81, 82, 83, 84, 85] rfl (by decide +kernel)
set_option maxRecDepth 20000 in
theorem g_m_draw_m_bits2_158 : GoodIn w_m_draw (va_wsS RX9 158 yX9_bits w_m_bits2) := goodIn_r _ [49, 50, 4, 51] rfl (by decide +kernel)
set_option maxRecDepth 20000 in
theorem g_m_draw_mf_beyond_84 : GoodIn w_m_draw (wsV RX9 84 RX9 yX9_finding w_mf_beyond) := goodIn_r _ [53, 54, 55, 4, 56, 57, 52, 58, 59, 60, 61, 62, 63, 64, 65, 66, 67, 68, 69, 70, 71, 72, 73, 74, 75, 76, 77, 78, 79, 80, 81, 82, 83, 84, 85] rfl (by decide +kernel)
set_option maxHeartbeats 4000000 in
set_option maxRecDepth 100000 in
theorem m_draw (l : Launch) (dC : Nat → ClassId) (dI : Nat → Nat → Nat) (ad : Nat → Nat) (h0 : Nat) (a : Int32) (a0 : Nat) (v1 : Value) (p0 : Nat) (v3 : Value) (v4 : Value) (t0 : Nat) (v6 : Value) (v7 : Value) (v8 : Value) (v9 : Value) (v10 : Value) (v11 : Value) (v12 : Value) (v13 : Value) (v14 : Value) (v15 : Value) (v16 : Value) (v17 : Value) (v18 : Value) (v19 : Value) (v20 : Value) (v21 : Value) (v22 : Value) (v23 : Value) (v24 : Value) (v25 : Value) (v26 : Value) (v27 : Value) (tc : ClassId) (tf : Nat → Int32) (ac : ClassId) (nf : Nat → Int32) (pc : ClassId) (pf : Nat → Int64) (sz : Nat) (hI : mI nf) : Met l yX9_draw w_m_draw ({ frames := 8, cells := 0, slots := 0, locals := 193 } : Room) (va_Pc [.ref h0, .int a] (preM dC dI ad [(tc, .int), (ac, .int), (pc, .long)] [(h0, .inr (7, [.ref a0, v1, .ref p0, v3, v4, .ref t0, v6, v7, v8, v9, v10, v11, v12, v13, v14, v15, v16, v17, v18, v19, v20, v21, v22, v23, v24, v25, v26, v27])), (t0, .inl (tc, 8, .inl tf)), (a0, .inl (ac, 38, .inl nf)), (p0, .inl (pc, 7, .inr (.inl pf)))] sz)) (va_Qi (fun (r : Int32) (_ : Unit) => True) (fun _ t => ∃ (tg : Nat → Int32), ∃ (pg : Nat → Int64), va_P (dC, dI) vwCl [(h0, .inr (7, [.ref a0, v1, .ref p0, v3, v4, .ref t0, v6, v7, v8, v9, v10, v11, v12, v13, v14, v15, v16, v17, v18, v19, v20, v21, v22, v23, v24, v25, v26, v27])), (t0, .inl (tc, 8, .inl tg)), (a0, .inl (ac, 38, .inl nf)), (p0, .inl (pc, 7, .inr (.inl pg)))] t.heap ∧ va_K (dC, dI) vwCl [(tc, .int), (ac, .int), (pc, .long)] t ∧ va_D (va_A [(h0, .inr (7, [.ref a0, v1, .ref p0, v3, v4, .ref t0, v6, v7, v8, v9, v10, v11, v12, v13, v14, v15, v16, v17, v18, v19, v20, v21, v22, v23, v24, v25, v26, v27])), (t0, .inl (tc, 8, .inl tf)), (a0, .inl (ac, 38, .inl nf)), (p0, .inl (pc, 7, .inr (.inl pf)))] sz) [(h0, .inr (7, [.ref a0, v1, .ref p0, v3, v4, .ref t0, v6, v7, v8, v9, v10, v11, v12, v13, v14, v15, v16, v17, v18, v19, v20, v21, v22, v23, v24, v25, v26, v27])), (t0, .inl (tc, 8, .inl tg)), (a0, .inl (ac, 38, .inl nf)), (p0, .inl (pc, 7, .inr (.inl pg)))]) (va_A [(h0, .inr (7, [.ref a0, v1, .ref p0, v3, v4, .ref t0, v6, v7, v8, v9, v10, v11, v12, v13, v14, v15, v16, v17, v18, v19, v20, v21, v22, v23, v24, v25, v26, v27])), (t0, .inl (tc, 8, .inl tf)), (a0, .inl (ac, 38, .inl nf)), (p0, .inl (pc, 7, .inr (.inl pf)))] sz)) 0 0 (va_A [(h0, .inr (7, [.ref a0, v1, .ref p0, v3, v4, .ref t0, v6, v7, v8, v9, v10, v11, v12, v13, v14, v15, v16, v17, v18, v19, v20, v21, v22, v23, v24, v25, v26, v27])), (t0, .inl (tc, 8, .inl tf)), (a0, .inl (ac, 38, .inl nf)), (p0, .inl (pc, 7, .inr (.inl pf)))] sz) := by
  refine Met.ofW (cc := cX9_draw) (maxL := 3) (ret := (some .int)) (by decide) rfl ?_
  intro p e s m args below meth c s₁ B hml hv
  obtain ⟨rfl, hsz, hP, hK, hD0, hev⟩ := hv
  have hx := B.exec
  have hb := B.bytes
  have hr := B.returns
  have hts := atoms_spec (ws := w_m_draw) B.pre
  have hown : s.vm.findClass RX9 = some m.cls := findClass_of_methodNamed B.named
  have hlocks := B.notSynchronized
  have inX9 : ∀ w ∈ wsX90, w ∈ w_m_draw := fun w h => List.mem_cons_of_mem _ (List.mem_append_right _ h)
  subst hsz
  have hD := hD0.self (sz := s.heap.size)
  generalize hAe : va_A [(h0, .inr (7, [.ref a0, v1, .ref p0, v3, v4, .ref t0, v6, v7, v8, v9, v10, v11, v12, v13, v14, v15, v16, v17, v18, v19, v20, v21, v22, v23, v24, v25, v26, v27])), (t0, .inl (tc, 8, .inl tf)), (a0, .inl (ac, 38, .inl nf)), (p0, .inl (pc, 7, .inr (.inl pf)))] s.heap.size = A at hD ⊢
  have hA : ∀ q : Nat, s.heap.size ≤ q → A q := fun q h => by rw [← hAe]; exact Or.inr h
  have hS : va_S A s.heap s.heap [] := va_S.rf
  have hP : va_P (dC, dI) vwCl [(h0, .inr (7, [.ref a0, v1, .ref p0, v3, v4, .ref t0, v6, v7, v8, v9, v10, v11, v12, v13, v14, v15, v16, v17, v18, v19, v20, v21, v22, v23, v24, v25, v26, v27])), (t0, .inl (tc, 8, .inl tf)), (a0, .inl (ac, 38, .inl nf)), (p0, .inl (pc, 7, .inr (.inl pf)))] s.heap := hP
  have hl := lv_entry ([.ref h0, .int a]) (n := 3) (Nat.le_of_ble_eq_true rfl)
  rw [lg_entry_eq]
  generalize (lg_sl ([.ref h0, .int a]) ++ List.replicate (3 - (lg_sl ([.ref h0, .int a])).length) Slot.unset).toArray = ls at hl ⊢
  have hl : lv_has ls 3 [(0, .ref h0), (1, .int a)] := hl
  refine lv_aload_n hx hb dX9_draw_0 rfl (lv_at hl 0 rfl) ?_
  refine lv_iload_n hx hb dX9_draw_1 rfl (lv_at hl 1 rfl) ?_
  have hPc := hP.sub (ws' := [(h0, .inr (7, [.ref a0, v1, .ref p0, v3, v4, .ref t0, v6, v7, v8, v9, v10, v11, v12, v13, v14, v15, v16, v17, v18, v19, v20, v21, v22, v23, v24, v25, v26, v27])), (a0, .inl (ac, 38, .inl nf))]) [0, 2] rfl
  have hKc := hK.sub (tys' := [(ac, .int)]) [1] rfl
  refine vp_callSi (W.runV (As := [.int a]) (rest := []) ⟨hx, hb, hml, hown, hts⟩ (m_isScene l dC dI ad h0 a a0 v1 (.ref p0) v3 v4 (.ref t0) v6 v7 v8 v9 v10 v11 v12 v13 v14 v15 v16 v17 v18 v19 v20 v21 v22 v23 v24 v25 v26 v27 ac nf hI) (cwV 1 hts g_m_draw_m_isScene_155 rfl rfl rfl (by decide +kernel) ⟨(Nat.le_of_ble_eq_true rfl), (Nat.le_of_ble_eq_true rfl)⟩) ⟨preS_blind, va_recv hKc hPc (ci := 7) (q0 := 0) rfl rfl, fun U hU hW => ⟨rfl, preS_at hU hW hPc hKc hev⟩⟩ rfl rfl hl.1 rfl (lv_room (Nat.le_of_ble_eq_true rfl)) dX9_draw_2 ⟨(Nat.le_of_ble_eq_true rfl), (Nat.le_of_ble_eq_true rfl)⟩) (fun r_1 hw => ?_)
  have hr_1 : (r_1.toInt = 1 ∧ 0 ≤ a.toInt ∧ a.toInt < (nf 1).toInt ∧ a.toInt ≤ 6) ∨ r_1.toInt = 0 := hw
  refine lv_if_ne (tgt := 15) hx hb dX9_draw_5 (by decide) (fun c_2 => ?_) (fun c_2 => ?_)
  · skip
    have tc_2 : ¬ r_1.toInt = 0 := fun h => c_2 ((fa_eq _ _).mpr h)
    have i_3 : 0 ≤ a.toInt ∧ a.toInt < (nf 1).toInt ∧ a.toInt ≤ 6 := by omega
    refine lv_aload_n hx hb dX9_draw_15 rfl (lv_at hl 0 rfl) ?_
    refine va_get (D := (dC, dI)) (ci := 7) (v := .ref p0) (C := RX9) (T := TX9) (N := 28) hx hb hts inX9 hown hK hP 0 rfl rfl 2 (by decide) (hts _ (List.mem_of_getElem? (i := 10) rfl)) (fun _ h9 => h9) rfl dX9_draw_16 ?_
    refine lv_iload_n hx hb dX9_draw_19 rfl (lv_at hl 1 rfl) ?_
    refine va_lald hx hb hK hP 3 2 rfl rfl (vp_in_iff.mpr ⟨by omega, by omega⟩) dX9_draw_20 ?_
    refine lv_topl (fun n_4 en_4 => ?_)
    clear en_4
    refine lv_aload_n hx hb dX9_draw_21 rfl (lv_at hl 0 rfl) ?_
    have hPc := hP.sub (ws' := [(h0, .inr (7, [.ref a0, v1, .ref p0, v3, v4, .ref t0, v6, v7, v8, v9, v10, v11, v12, v13, v14, v15, v16, v17, v18, v19, v20, v21, v22, v23, v24, v25, v26, v27])), (a0, .inl (ac, 38, .inl nf))]) [0, 2] rfl
    have hKc := hK.sub (tys' := [(ac, .int)]) [1] rfl
    refine vp_callSl (W.runV (As := []) (rest := [.long n_4]) ⟨hx, hb, hml, hown, hts⟩ (m_dark l dC dI ad h0 a0 v1 (.ref p0) v3 v4 (.ref t0) v6 v7 v8 v9 v10 v11 v12 v13 v14 v15 v16 v17 v18 v19 v20 v21 v22 v23 v24 v25 v26 v27 ac nf hI) (cwV 0 hts g_m_draw_m_dark_146 rfl rfl rfl (by decide +kernel) ⟨(Nat.le_of_ble_eq_true rfl), (Nat.le_of_ble_eq_true rfl)⟩) ⟨preS_blind, va_recv hKc hPc (ci := 7) (q0 := 0) rfl rfl, fun U hU hW => ⟨rfl, preS_at hU hW hPc hKc hev⟩⟩ rfl rfl hl.1 rfl (lv_room (Nat.le_of_ble_eq_true rfl)) dX9_draw_22 ⟨(Nat.le_of_ble_eq_true rfl), (Nat.le_of_ble_eq_true rfl)⟩) (fun r_5 hw => ?_)
    refine lv_lxor hx hb dX9_draw_25 ?_
    refine lv_topl (fun n_6 en_6 => ?_)
    clear en_6
    have hPc := hP.sub (ws' := []) [] rfl
    have hKc := hK.sub (tys' := []) [] rfl
    refine vp_callSi (W.runS (As := [.long n_6]) (rest := []) ⟨hx, hb, hml, hown, hts⟩ (m_bits2 l dC dI ad n_6 ) (va_cwS 1 hts g_m_draw_m_bits2_158 rfl rfl rfl (by decide +kernel) ⟨(Nat.le_of_ble_eq_true rfl), (Nat.le_of_ble_eq_true rfl)⟩) ⟨preS_blind, fun U hU hW => ⟨rfl, preS_at hU hW hPc hKc hev⟩⟩ rfl rfl hl.1 rfl (lv_room (Nat.le_of_ble_eq_true rfl)) dX9_draw_26 ⟨(Nat.le_of_ble_eq_true rfl), (Nat.le_of_ble_eq_true rfl)⟩) (fun r_7 hw => ?_)
    have hr_7 : (0 ≤ r_7.toInt ∧ r_7.toInt ≤ 64) ∧ (n_6.toBitVec.toNat < 512 → r_7.toInt = (pop9 n_6.toBitVec.toNat : Int)) := hw
    refine lv_istore_n (lv' := [(2, .int r_7), (0, .ref h0), (1, .int a)]) hx hb dX9_draw_29 rfl hl (by decide) rfl (fun ls hl => ?_)
    refine lv_aload_n hx hb dX9_draw_30 rfl (lv_at hl 1 rfl) ?_
    refine va_get (D := (dC, dI)) (ci := 7) (v := .ref p0) (C := RX9) (T := TX9) (N := 28) hx hb hts inX9 hown hK hP 0 rfl rfl 2 (by decide) (hts _ (List.mem_of_getElem? (i := 10) rfl)) (fun _ h9 => h9) rfl dX9_draw_31 ?_
    refine lv_iload_n hx hb dX9_draw_34 rfl (lv_at hl 2 rfl) ?_
    refine lv_aload_n hx hb dX9_draw_35 rfl (lv_at hl 1 rfl) ?_
    have hPc := hP.sub (ws' := [(h0, .inr (7, [.ref a0, v1, .ref p0, v3, v4, .ref t0, v6, v7, v8, v9, v10, v11, v12, v13, v14, v15, v16, v17, v18, v19, v20, v21, v22, v23, v24, v25, v26, v27])), (a0, .inl (ac, 38, .inl nf))]) [0, 2] rfl
    have hKc := hK.sub (tys' := [(ac, .int)]) [1] rfl
    refine vp_callSl (W.runV (As := []) (rest := [.int a, .ref p0]) ⟨hx, hb, hml, hown, hts⟩ (m_dark l dC dI ad h0 a0 v1 (.ref p0) v3 v4 (.ref t0) v6 v7 v8 v9 v10 v11 v12 v13 v14 v15 v16 v17 v18 v19 v20 v21 v22 v23 v24 v25 v26 v27 ac nf hI) (cwV 0 hts g_m_draw_m_dark_146 rfl rfl rfl (by decide +kernel) ⟨(Nat.le_of_ble_eq_true rfl), (Nat.le_of_ble_eq_true rfl)⟩) ⟨preS_blind, va_recv hKc hPc (ci := 7) (q0 := 0) rfl rfl, fun U hU hW => ⟨rfl, preS_at hU hW hPc hKc hev⟩⟩ rfl rfl hl.1 rfl (lv_room (Nat.le_of_ble_eq_true rfl)) dX9_draw_36 ⟨(Nat.le_of_ble_eq_true rfl), (Nat.le_of_ble_eq_true rfl)⟩) (fun r_8 hw => ?_)
    refine va_last hx hb hK hP hD hS 3 2 rfl rfl (vp_in_iff.mpr ⟨by omega, by omega⟩) dX9_draw_39 (fun H locs hP hD hS => ?_)
    have hP : va_P (dC, dI) vwCl [(h0, .inr (7, [.ref a0, v1, .ref p0, v3, v4, .ref t0, v6, v7, v8, v9, v10, v11, v12, v13, v14, v15, v16, v17, v18, v19, v20, v21, v22, v23, v24, v25, v26, v27])), (t0, .inl (tc, 8, .inl tf)), (a0, .inl (ac, 38, .inl nf)), (p0, .inl (pc, 7, .inr (.inl (vp_updL pf a.toNatClampNeg r_8))))] H := hP
    have hD : va_D A [(h0, .inr (7, [.ref a0, v1, .ref p0, v3, v4, .ref t0, v6, v7, v8, v9, v10, v11, v12, v13, v14, v15, v16, v17, v18, v19, v20, v21, v22, v23, v24, v25, v26, v27])), (t0, .inl (tc, 8, .inl tf)), (a0, .inl (ac, 38, .inl nf)), (p0, .inl (pc, 7, .inr (.inl (vp_updL pf a.toNatClampNeg r_8))))] := hD
    refine lv_iload_n hx hb dX9_draw_40 rfl (lv_at hl 0 rfl) ?_
    have hP9 := hP.sub (ws' := [(h0, .inr (7, [.ref a0, v1, .ref p0, v3, v4, .ref t0, v6, v7, v8, v9, v10, v11, v12, v13, v14, v15, v16, v17, v18, v19, v20, v21, v22, v23, v24, v25, v26, v27])), (t0, .inl (tc, 8, .inl tf)), (a0, .inl (ac, 38, .inl nf)), (p0, .inl (pc, 7, .inr (.inl (vp_updL pf a.toNatClampNeg r_8))))]) [0, 1, 2, 3] rfl
    have hD9 := hD.sub (ws' := [(h0, .inr (7, [.ref a0, v1, .ref p0, v3, v4, .ref t0, v6, v7, v8, v9, v10, v11, v12, v13, v14, v15, v16, v17, v18, v19, v20, v21, v22, v23, v24, v25, v26, v27])), (t0, .inl (tc, 8, .inl tf)), (a0, .inl (ac, 38, .inl nf)), (p0, .inl (pc, 7, .inr (.inl (vp_updL pf a.toNatClampNeg r_8))))]) [0, 1, 2, 3] (by decide) rfl
    have hK9 := hK.sub (tys' := [(tc, .int), (ac, .int), (pc, .long)]) [0, 1, 2] rfl
    exact W.iret (v := r_7) hx hb hr (fun t ht hW => ⟨⟨r_7, (), rfl, trivial, tf, vp_updL pf a.toNatClampNeg r_8, by rw [ht]; exact hP9, va_K.moved hW.alike hK9, hD9⟩, hS.F ht⟩) hS.2.2 dX9_draw_41
  · skip
    have tc_2 : r_1.toInt = 0 := (fa_eq _ _).mp c_2
    refine lv_aload_n hx hb dX9_draw_8 rfl (lv_at hl 0 rfl) ?_
    refine lv_ldc hx hb hown (hts _ (List.mem_of_getElem? (i := 52) rfl)) dX9_draw_9 ?_
    have hPc := hP.sub (ws' := [(h0, .inr (7, [.ref a0, v1, .ref p0, v3, v4, .ref t0, v6, v7, v8, v9, v10, v11, v12, v13, v14, v15, v16, v17, v18, v19, v20, v21, v22, v23, v24, v25, v26, v27])), (t0, .inl (tc, 8, .inl tf))]) [0, 1] rfl
    have hKc := hK.sub (tys' := [(tc, .int)]) [0] rfl
    have hDc := hD.sub (ws' := [(h0, .inr (7, [.ref a0, v1, .ref p0, v3, v4, .ref t0, v6, v7, v8, v9, v10, v11, v12, v13, v14, v15, v16, v17, v18, v19, v20, v21, v22, v23, v24, v25, v26, v27])), (t0, .inl (tc, 8, .inl tf))]) [0, 1] (by decide) rfl
    have hFc := va_free (wc := [(h0, .inr (7, [.ref a0, v1, .ref p0, v3, v4, .ref t0, v6, v7, v8, v9, v10, v11, v12, v13, v14, v15, v16, v17, v18, v19, v20, v21, v22, v23, v24, v25, v26, v27])), (t0, .inl (tc, 8, .inl tf))]) hD hS hA [0, 1] rfl
    refine va_calli (va_runV (As := [.int (-1000000001)]) (rest := []) ⟨hx, hb, hml, hown, hts⟩ (mf_beyond l dC dI ad h0 (.ref a0) v1 (.ref p0) v3 v4 t0 v6 v7 v8 v9 v10 v11 v12 v13 v14 v15 v16 v17 v18 v19 v20 v21 v22 v23 v24 v25 v26 v27 tc tf s.heap.size ) (cwV 1 hts g_m_draw_mf_beyond_84 rfl rfl rfl (by decide +kernel) ⟨(Nat.le_of_ble_eq_true rfl), (Nat.le_of_ble_eq_true rfl)⟩) ⟨preM_blind, va_recv hKc hPc (ci := 7) (q0 := 0) rfl rfl, fun U hU hW => ⟨rfl, preM_at hU hW hPc hKc hDc hev⟩⟩ rfl rfl hl.1 rfl (lv_room (Nat.le_of_ble_eq_true rfl)) dX9_draw_11 ⟨(Nat.le_of_ble_eq_true rfl), (Nat.le_of_ble_eq_true rfl)⟩) hS (fun q _ h => hFc q h) hFc (fun r_9 u t H1 locs ht hvm hw hB hz1 hk1 hS => ?_)
    obtain ⟨tg_10, hP1, hK1, hD1⟩ := hB
    rw [ht] at hP1
    have hK1 := va_K.moved hvm.symm hK1
    obtain ⟨hP, hD⟩ := va_join (wr := [(a0, .inl (ac, 38, .inl nf)), (p0, .inl (pc, 7, .inr (.inl pf)))]) (w1 := [(h0, .inr (7, [.ref a0, v1, .ref p0, v3, v4, .ref t0, v6, v7, v8, v9, v10, v11, v12, v13, v14, v15, v16, v17, v18, v19, v20, v21, v22, v23, v24, v25, v26, v27])), (t0, .inl (tc, 8, .inl tg_10))]) hP hD [0, 1] [2, 3] rfl rfl (by decide) (by decide) hk1 hFc hP1 hD1
    generalize H1 = H at hP hS ⊢
    have hP : va_P (dC, dI) vwCl [(a0, .inl (ac, 38, .inl nf)), (p0, .inl (pc, 7, .inr (.inl pf))), (h0, .inr (7, [.ref a0, v1, .ref p0, v3, v4, .ref t0, v6, v7, v8, v9, v10, v11, v12, v13, v14, v15, v16, v17, v18, v19, v20, v21, v22, v23, v24, v25, v26, v27])), (t0, .inl (tc, 8, .inl tg_10))] H := hP
    have hD : va_D A [(a0, .inl (ac, 38, .inl nf)), (p0, .inl (pc, 7, .inr (.inl pf))), (h0, .inr (7, [.ref a0, v1, .ref p0, v3, v4, .ref t0, v6, v7, v8, v9, v10, v11, v12, v13, v14, v15, v16, v17, v18, v19, v20, v21, v22, v23, v24, v25, v26, v27])), (t0, .inl (tc, 8, .inl tg_10))] := hD
    subst hw
    have hP9 := hP.sub (ws' := [(h0, .inr (7, [.ref a0, v1, .ref p0, v3, v4, .ref t0, v6, v7, v8, v9, v10, v11, v12, v13, v14, v15, v16, v17, v18, v19, v20, v21, v22, v23, v24, v25, v26, v27])), (t0, .inl (tc, 8, .inl tg_10)), (a0, .inl (ac, 38, .inl nf)), (p0, .inl (pc, 7, .inr (.inl pf)))]) [2, 3, 0, 1] rfl
    have hD9 := hD.sub (ws' := [(h0, .inr (7, [.ref a0, v1, .ref p0, v3, v4, .ref t0, v6, v7, v8, v9, v10, v11, v12, v13, v14, v15, v16, v17, v18, v19, v20, v21, v22, v23, v24, v25, v26, v27])), (t0, .inl (tc, 8, .inl tg_10)), (a0, .inl (ac, 38, .inl nf)), (p0, .inl (pc, 7, .inr (.inl pf)))]) [2, 3, 0, 1] (by decide) rfl
    have hK9 := hK.sub (tys' := [(tc, .int), (ac, .int), (pc, .long)]) [0, 1, 2] rfl
    exact W.iret (v := ((-1000000001) : Int32)) hx hb hr (fun t ht hW => ⟨⟨((-1000000001) : Int32), (), rfl, trivial, tg_10, pf, by rw [ht]; exact hP9, va_K.moved hW.alike hK9, hD9⟩, hS.F ht⟩) hS.2.2 dX9_draw_14

def w_m_picture : List Cond := .code yX9_picture cX9_picture 2 (some .long) :: (([.methodLink RX9 155 yX9_isScene, .instanceMethod yX9_isScene, .selects RX9 yX9_isScene yX9_isScene, .initialized RX9, .code yX9_isScene cX9_isScene 2 (some .boolean), .fieldLink RX9 9 "LampShapesModel" "now" "[I", .methodLink RX9 75 yX9_within, .static yX9_within, .code yX9_within cX9_within 3 (some .boolean), .constant RX9 74 (-1000000001), .methodLink RX9 84 yX9_finding, .instanceMethod yX9_finding, .selects RX9 yX9_finding yX9_finding, .code yX9_finding cX9_finding 2 (some .int), .fieldLink RX9 23 "LampShapesModel" "found" "[I", .fieldLink RX9 16 "LampShapesModel" "pictures" "[J"] : List Cond) ++ wsX90)
set_option maxRecDepth 20000 in
theorem g_m_picture_m_isScene_155 : GoodIn w_m_picture (wsV RX9 155 RX9 yX9_isScene w_m_isScene) := goodIn_r _ [1, 2, 3, 4, 5, 6, 7, 8, 4, 9, 17, 18, 19, 20, 21, 22, 23, 24, 25, 26, 27, 28, 29, 30, 31, 32, 33, 34, 35, 36, 37, 38, 39, 40, 41, 42, 43, 44] rfl (by decide +kernel)
set_option maxRecDepth 20000 in
theorem g_m_picture_mf_beyond_84 : GoodIn w_m_picture (wsV RX9 84 RX9 yX9_finding w_mf_beyond) := goodIn_r _ [11, 12, 13, 4, 14, 15, 10, 17, 18, 19, 20, 21, 22, 23, 24, 25, 26, 27, 28, 29, 30, 31, 32, 33, 34, 35, 36, 37, 38, 39, 40, 41, 42, 43, 44] rfl (by decide +kernel)
set_option maxHeartbeats 4000000 in
set_option maxRecDepth 100000 in
theorem m_picture (l : Launch) (dC : Nat → ClassId) (dI : Nat → Nat → Nat) (ad : Nat → Nat) (h0 : Nat) (a : Int32) (a0 : Nat) (v1 : Value) (p0 : Nat) (v3 : Value) (v4 : Value) (t0 : Nat) (v6 : Value) (v7 : Value) (v8 : Value) (v9 : Value) (v10 : Value) (v11 : Value) (v12 : Value) (v13 : Value) (v14 : Value) (v15 : Value) (v16 : Value) (v17 : Value) (v18 : Value) (v19 : Value) (v20 : Value) (v21 : Value) (v22 : Value) (v23 : Value) (v24 : Value) (v25 : Value) (v26 : Value) (v27 : Value) (tc : ClassId) (tf : Nat → Int32) (ac : ClassId) (nf : Nat → Int32) (pc : ClassId) (pf : Nat → Int64) (sz : Nat) (hI : mI nf) : Met l yX9_picture w_m_picture ({ frames := 2, cells := 0, slots := 0, locals := 43 } : Room) (va_Pc [.ref h0, .int a] (preM dC dI ad [(tc, .int), (ac, .int), (pc, .long)] [(h0, .inr (7, [.ref a0, v1, .ref p0, v3, v4, .ref t0, v6, v7, v8, v9, v10, v11, v12, v13, v14, v15, v16, v17, v18, v19, v20, v21, v22, v23, v24, v25, v26, v27])), (t0, .inl (tc, 8, .inl tf)), (a0, .inl (ac, 38, .inl nf)), (p0, .inl (pc, 7, .inr (.inl pf)))] sz)) (va_Ql (fun (r : Int64) (_ : Unit) => True) (fun _ t => ∃ (tg : Nat → Int32), va_P (dC, dI) vwCl [(h0, .inr (7, [.ref a0, v1, .ref p0, v3, v4, .ref t0, v6, v7, v8, v9, v10, v11, v12, v13, v14, v15, v16, v17, v18, v19, v20, v21, v22, v23, v24, v25, v26, v27])), (t0, .inl (tc, 8, .inl tg)), (a0, .inl (ac, 38, .inl nf)), (p0, .inl (pc, 7, .inr (.inl pf)))] t.heap ∧ va_K (dC, dI) vwCl [(tc, .int), (ac, .int), (pc, .long)] t ∧ va_D (va_A [(h0, .inr (7, [.ref a0, v1, .ref p0, v3, v4, .ref t0, v6, v7, v8, v9, v10, v11, v12, v13, v14, v15, v16, v17, v18, v19, v20, v21, v22, v23, v24, v25, v26, v27])), (t0, .inl (tc, 8, .inl tf)), (a0, .inl (ac, 38, .inl nf)), (p0, .inl (pc, 7, .inr (.inl pf)))] sz) [(h0, .inr (7, [.ref a0, v1, .ref p0, v3, v4, .ref t0, v6, v7, v8, v9, v10, v11, v12, v13, v14, v15, v16, v17, v18, v19, v20, v21, v22, v23, v24, v25, v26, v27])), (t0, .inl (tc, 8, .inl tg)), (a0, .inl (ac, 38, .inl nf)), (p0, .inl (pc, 7, .inr (.inl pf)))]) (va_A [(h0, .inr (7, [.ref a0, v1, .ref p0, v3, v4, .ref t0, v6, v7, v8, v9, v10, v11, v12, v13, v14, v15, v16, v17, v18, v19, v20, v21, v22, v23, v24, v25, v26, v27])), (t0, .inl (tc, 8, .inl tf)), (a0, .inl (ac, 38, .inl nf)), (p0, .inl (pc, 7, .inr (.inl pf)))] sz)) 0 0 (va_A [(h0, .inr (7, [.ref a0, v1, .ref p0, v3, v4, .ref t0, v6, v7, v8, v9, v10, v11, v12, v13, v14, v15, v16, v17, v18, v19, v20, v21, v22, v23, v24, v25, v26, v27])), (t0, .inl (tc, 8, .inl tf)), (a0, .inl (ac, 38, .inl nf)), (p0, .inl (pc, 7, .inr (.inl pf)))] sz) := by
  refine Met.ofW (cc := cX9_picture) (maxL := 2) (ret := (some .long)) (by decide) rfl ?_
  intro p e s m args below meth c s₁ B hml hv
  obtain ⟨rfl, hsz, hP, hK, hD0, hev⟩ := hv
  have hx := B.exec
  have hb := B.bytes
  have hr := B.returns
  have hts := atoms_spec (ws := w_m_picture) B.pre
  have hown : s.vm.findClass RX9 = some m.cls := findClass_of_methodNamed B.named
  have hlocks := B.notSynchronized
  have inX9 : ∀ w ∈ wsX90, w ∈ w_m_picture := fun w h => List.mem_cons_of_mem _ (List.mem_append_right _ h)
  subst hsz
  have hD := hD0.self (sz := s.heap.size)
  generalize hAe : va_A [(h0, .inr (7, [.ref a0, v1, .ref p0, v3, v4, .ref t0, v6, v7, v8, v9, v10, v11, v12, v13, v14, v15, v16, v17, v18, v19, v20, v21, v22, v23, v24, v25, v26, v27])), (t0, .inl (tc, 8, .inl tf)), (a0, .inl (ac, 38, .inl nf)), (p0, .inl (pc, 7, .inr (.inl pf)))] s.heap.size = A at hD ⊢
  have hA : ∀ q : Nat, s.heap.size ≤ q → A q := fun q h => by rw [← hAe]; exact Or.inr h
  have hS : va_S A s.heap s.heap [] := va_S.rf
  have hP : va_P (dC, dI) vwCl [(h0, .inr (7, [.ref a0, v1, .ref p0, v3, v4, .ref t0, v6, v7, v8, v9, v10, v11, v12, v13, v14, v15, v16, v17, v18, v19, v20, v21, v22, v23, v24, v25, v26, v27])), (t0, .inl (tc, 8, .inl tf)), (a0, .inl (ac, 38, .inl nf)), (p0, .inl (pc, 7, .inr (.inl pf)))] s.heap := hP
  have hl := lv_entry ([.ref h0, .int a]) (n := 2) (Nat.le_of_ble_eq_true rfl)
  rw [lg_entry_eq]
  generalize (lg_sl ([.ref h0, .int a]) ++ List.replicate (2 - (lg_sl ([.ref h0, .int a])).length) Slot.unset).toArray = ls at hl ⊢
  have hl : lv_has ls 2 [(0, .ref h0), (1, .int a)] := hl
  refine lv_aload_n hx hb dX9_picture_0 rfl (lv_at hl 0 rfl) ?_
  refine lv_iload_n hx hb dX9_picture_1 rfl (lv_at hl 1 rfl) ?_
  have hPc := hP.sub (ws' := [(h0, .inr (7, [.ref a0, v1, .ref p0, v3, v4, .ref t0, v6, v7, v8, v9, v10, v11, v12, v13, v14, v15, v16, v17, v18, v19, v20, v21, v22, v23, v24, v25, v26, v27])), (a0, .inl (ac, 38, .inl nf))]) [0, 2] rfl
  have hKc := hK.sub (tys' := [(ac, .int)]) [1] rfl
  refine vp_callSi (W.runV (As := [.int a]) (rest := []) ⟨hx, hb, hml, hown, hts⟩ (m_isScene l dC dI ad h0 a a0 v1 (.ref p0) v3 v4 (.ref t0) v6 v7 v8 v9 v10 v11 v12 v13 v14 v15 v16 v17 v18 v19 v20 v21 v22 v23 v24 v25 v26 v27 ac nf hI) (cwV 1 hts g_m_picture_m_isScene_155 rfl rfl rfl (by decide +kernel) ⟨(Nat.le_of_ble_eq_true rfl), (Nat.le_of_ble_eq_true rfl)⟩) ⟨preS_blind, va_recv hKc hPc (ci := 7) (q0 := 0) rfl rfl, fun U hU hW => ⟨rfl, preS_at hU hW hPc hKc hev⟩⟩ rfl rfl hl.1 rfl (lv_room (Nat.le_of_ble_eq_true rfl)) dX9_picture_2 ⟨(Nat.le_of_ble_eq_true rfl), (Nat.le_of_ble_eq_true rfl)⟩) (fun r_1 hw => ?_)
  have hr_1 : (r_1.toInt = 1 ∧ 0 ≤ a.toInt ∧ a.toInt < (nf 1).toInt ∧ a.toInt ≤ 6) ∨ r_1.toInt = 0 := hw
  refine lv_if_eq (tgt := 17) hx hb dX9_picture_5 (by decide) (fun c_2 => ?_) (fun c_2 => ?_)
  · skip
    have tc_2 : r_1.toInt = 0 := (fa_eq _ _).mp c_2
    refine lv_aload_n hx hb dX9_picture_17 rfl (lv_at hl 0 rfl) ?_
    refine lv_ldc hx hb hown (hts _ (List.mem_of_getElem? (i := 10) rfl)) dX9_picture_18 ?_
    have hPc := hP.sub (ws' := [(h0, .inr (7, [.ref a0, v1, .ref p0, v3, v4, .ref t0, v6, v7, v8, v9, v10, v11, v12, v13, v14, v15, v16, v17, v18, v19, v20, v21, v22, v23, v24, v25, v26, v27])), (t0, .inl (tc, 8, .inl tf))]) [0, 1] rfl
    have hKc := hK.sub (tys' := [(tc, .int)]) [0] rfl
    have hDc := hD.sub (ws' := [(h0, .inr (7, [.ref a0, v1, .ref p0, v3, v4, .ref t0, v6, v7, v8, v9, v10, v11, v12, v13, v14, v15, v16, v17, v18, v19, v20, v21, v22, v23, v24, v25, v26, v27])), (t0, .inl (tc, 8, .inl tf))]) [0, 1] (by decide) rfl
    have hFc := va_free (wc := [(h0, .inr (7, [.ref a0, v1, .ref p0, v3, v4, .ref t0, v6, v7, v8, v9, v10, v11, v12, v13, v14, v15, v16, v17, v18, v19, v20, v21, v22, v23, v24, v25, v26, v27])), (t0, .inl (tc, 8, .inl tf))]) hD hS hA [0, 1] rfl
    refine va_calli (va_runV (As := [.int (-1000000001)]) (rest := []) ⟨hx, hb, hml, hown, hts⟩ (mf_beyond l dC dI ad h0 (.ref a0) v1 (.ref p0) v3 v4 t0 v6 v7 v8 v9 v10 v11 v12 v13 v14 v15 v16 v17 v18 v19 v20 v21 v22 v23 v24 v25 v26 v27 tc tf s.heap.size ) (cwV 1 hts g_m_picture_mf_beyond_84 rfl rfl rfl (by decide +kernel) ⟨(Nat.le_of_ble_eq_true rfl), (Nat.le_of_ble_eq_true rfl)⟩) ⟨preM_blind, va_recv hKc hPc (ci := 7) (q0 := 0) rfl rfl, fun U hU hW => ⟨rfl, preM_at hU hW hPc hKc hDc hev⟩⟩ rfl rfl hl.1 rfl (lv_room (Nat.le_of_ble_eq_true rfl)) dX9_picture_20 ⟨(Nat.le_of_ble_eq_true rfl), (Nat.le_of_ble_eq_true rfl)⟩) hS (fun q _ h => hFc q h) hFc (fun r_3 u t H1 locs ht hvm hw hB hz1 hk1 hS => ?_)
    obtain ⟨tg_4, hP1, hK1, hD1⟩ := hB
    rw [ht] at hP1
    have hK1 := va_K.moved hvm.symm hK1
    obtain ⟨hP, hD⟩ := va_join (wr := [(a0, .inl (ac, 38, .inl nf)), (p0, .inl (pc, 7, .inr (.inl pf)))]) (w1 := [(h0, .inr (7, [.ref a0, v1, .ref p0, v3, v4, .ref t0, v6, v7, v8, v9, v10, v11, v12, v13, v14, v15, v16, v17, v18, v19, v20, v21, v22, v23, v24, v25, v26, v27])), (t0, .inl (tc, 8, .inl tg_4))]) hP hD [0, 1] [2, 3] rfl rfl (by decide) (by decide) hk1 hFc hP1 hD1
    generalize H1 = H at hP hS ⊢
    have hP : va_P (dC, dI) vwCl [(a0, .inl (ac, 38, .inl nf)), (p0, .inl (pc, 7, .inr (.inl pf))), (h0, .inr (7, [.ref a0, v1, .ref p0, v3, v4, .ref t0, v6, v7, v8, v9, v10, v11, v12, v13, v14, v15, v16, v17, v18, v19, v20, v21, v22, v23, v24, v25, v26, v27])), (t0, .inl (tc, 8, .inl tg_4))] H := hP
    have hD : va_D A [(a0, .inl (ac, 38, .inl nf)), (p0, .inl (pc, 7, .inr (.inl pf))), (h0, .inr (7, [.ref a0, v1, .ref p0, v3, v4, .ref t0, v6, v7, v8, v9, v10, v11, v12, v13, v14, v15, v16, v17, v18, v19, v20, v21, v22, v23, v24, v25, v26, v27])), (t0, .inl (tc, 8, .inl tg_4))] := hD
    subst hw
    refine lv_i2l (v := (-1000000001)) hx hb dX9_picture_23 (by decide) ?_
    have hP9 := hP.sub (ws' := [(h0, .inr (7, [.ref a0, v1, .ref p0, v3, v4, .ref t0, v6, v7, v8, v9, v10, v11, v12, v13, v14, v15, v16, v17, v18, v19, v20, v21, v22, v23, v24, v25, v26, v27])), (t0, .inl (tc, 8, .inl tg_4)), (a0, .inl (ac, 38, .inl nf)), (p0, .inl (pc, 7, .inr (.inl pf)))]) [2, 3, 0, 1] rfl
    have hD9 := hD.sub (ws' := [(h0, .inr (7, [.ref a0, v1, .ref p0, v3, v4, .ref t0, v6, v7, v8, v9, v10, v11, v12, v13, v14, v15, v16, v17, v18, v19, v20, v21, v22, v23, v24, v25, v26, v27])), (t0, .inl (tc, 8, .inl tg_4)), (a0, .inl (ac, 38, .inl nf)), (p0, .inl (pc, 7, .inr (.inl pf)))]) [2, 3, 0, 1] (by decide) rfl
    have hK9 := hK.sub (tys' := [(tc, .int), (ac, .int), (pc, .long)]) [0, 1, 2] rfl
    exact W.lret (v := ((-1000000001) : Int64)) hx hb hr (fun t ht hW => ⟨⟨((-1000000001) : Int64), (), rfl, trivial, tg_4, by rw [ht]; exact hP9, va_K.moved hW.alike hK9, hD9⟩, hS.F ht⟩) hS.2.2 dX9_picture_24
  · skip
    have tc_2 : ¬ r_1.toInt = 0 := fun h => c_2 ((fa_eq _ _).mpr h)
    have i_5 : 0 ≤ a.toInt ∧ a.toInt < (nf 1).toInt ∧ a.toInt ≤ 6 := by omega
    refine lv_aload_n hx hb dX9_picture_8 rfl (lv_at hl 0 rfl) ?_
    refine va_get (D := (dC, dI)) (ci := 7) (v := .ref p0) (C := RX9) (T := TX9) (N := 28) hx hb hts inX9 hown hK hP 0 rfl rfl 2 (by decide) (hts _ (List.mem_of_getElem? (i := 16) rfl)) (fun _ h9 => h9) rfl dX9_picture_9 ?_
    refine lv_iload_n hx hb dX9_picture_12 rfl (lv_at hl 1 rfl) ?_
    refine va_lald hx hb hK hP 3 2 rfl rfl (vp_in_iff.mpr ⟨by omega, by omega⟩) dX9_picture_13 ?_
    refine lv_topl (fun n_6 en_6 => ?_)
    clear en_6
    refine lv_goto (tgt := 24) hx hb dX9_picture_14 (by decide) ?_
    have hP9 := hP.sub (ws' := [(h0, .inr (7, [.ref a0, v1, .ref p0, v3, v4, .ref t0, v6, v7, v8, v9, v10, v11, v12, v13, v14, v15, v16, v17, v18, v19, v20, v21, v22, v23, v24, v25, v26, v27])), (t0, .inl (tc, 8, .inl tf)), (a0, .inl (ac, 38, .inl nf)), (p0, .inl (pc, 7, .inr (.inl pf)))]) [0, 1, 2, 3] rfl
    have hD9 := hD.sub (ws' := [(h0, .inr (7, [.ref a0, v1, .ref p0, v3, v4, .ref t0, v6, v7, v8, v9, v10, v11, v12, v13, v14, v15, v16, v17, v18, v19, v20, v21, v22, v23, v24, v25, v26, v27])), (t0, .inl (tc, 8, .inl tf)), (a0, .inl (ac, 38, .inl nf)), (p0, .inl (pc, 7, .inr (.inl pf)))]) [0, 1, 2, 3] (by decide) rfl
    have hK9 := hK.sub (tys' := [(tc, .int), (ac, .int), (pc, .long)]) [0, 1, 2] rfl
    exact W.lret (v := n_6) hx hb hr (fun t ht hW => ⟨⟨n_6, (), rfl, trivial, tf, by rw [ht]; exact hP9, va_K.moved hW.alike hK9, hD9⟩, hS.F ht⟩) hS.2.2 dX9_picture_24

def w_m_off : List Cond := .code yX9_off cX9_off 2 (some .int) :: (([.methodLink RX9 155 yX9_isScene, .instanceMethod yX9_isScene, .selects RX9 yX9_isScene yX9_isScene, .initialized RX9, .code yX9_isScene cX9_isScene 2 (some .boolean), .fieldLink RX9 9 "LampShapesModel" "now" "[I", .methodLink RX9 75 yX9_within, .static yX9_within, .code yX9_within cX9_within 3 (some .boolean), .constant RX9 74 (-1000000001), .methodLink RX9 84 yX9_finding, .instanceMethod yX9_finding, .selects RX9 yX9_finding yX9_finding, .code yX9_finding cX9_finding 2 (some .int), .fieldLink RX9 23 "LampShapesModel" "found" "[I", .fieldLink RX9 16 "LampShapesModel" "pictures" "[J", .methodLink RX9 146 yX9_dark, .instanceMethod yX9_dark, .selects RX9 yX9_dark yX9_dark, .code yX9_dark cX9_dark 1 (some .long), .methodLink RX9 141 yX9_darkBut, .instanceMethod yX9_darkBut, .selects RX9 yX9_darkBut yX9_darkBut, .code yX9_darkBut cX9_darkBut 5 (some .long), .methodLink RX9 137 yX9_shadowIn, .instanceMethod yX9_shadowIn, .selects RX9 yX9_shadowIn yX9_shadowIn, .code yX9_shadowIn cX9_shadowIn 3 (some .long), .methodLink RX9 99 yX9_shapeIs, .instanceMethod yX9_shapeIs, .selects RX9 yX9_shapeIs yX9_shapeIs, .code yX9_shapeIs cX9_shapeIs 3 (some .int), .methodLink RX9 129 yX9_shadowOf, .instanceMethod yX9_shadowOf, .selects RX9 yX9_shadowOf yX9_shadowOf, .code yX9_shadowOf cX9_shadowOf 11 (some .long), .methodLink RX9 122 yX9_throwsOf, .static yX9_throwsOf, .code yX9_throwsOf cX9_throwsOf 8 (some .int), .methodLink RX9 112 yX9_mirrored, .static yX9_mirrored, .code yX9_mirrored cX9_mirrored 5 (some .int), .methodLink RX9 109 yX9_has, .static yX9_has, .code yX9_has cX9_has 3 (some .boolean), .methodLink RX9 114 yX9_turned, .static yX9_turned, .code yX9_turned cX9_turned 7 (some .int), .methodLink RX9 119 yX9_isBetween, .static yX9_isBetween, .code yX9_isBetween cX9_isBetween 6 (some .boolean), .methodLink RX9 116 yX9_isInner, .static yX9_isInner, .code yX9_isInner cX9_isInner 3 (some .boolean), .methodLink RX9 158 yX9_bits, .static yX9_bits, .code yX9_bits cX9_bits 5 (some .int)] : List Cond) ++ wsX90)
set_option maxRecDepth 20000 in
theorem g_m_off_m_isScene_155 : GoodIn w_m_off (wsV RX9 155 RX9 yX9_isScene w_m_isScene) := goodIn_r _ [1, 2, 3, 4, 5, 6, 7, 8, 4, 9, 58, 59, 60, 61, 62, 63, 64, 65, 66, 67, 68, 69, 70, 71, 72, 73, 74, 75, 76, 77, 78, 79, 80, 81, 82, 83, 84, 85] rfl (by decide +kernel)
set_option maxRecDepth 20000 in
theorem g_m_off_mf_beyond_84 : GoodIn w_m_off (wsV RX9 84 RX9 yX9_finding w_mf_beyond) := goodIn_r _ [11, 12, 13, 4, 14, 15, 10, 58, 59, 60, 61, 62, 63, 64, 65, 66, 67, 68, 69, 70, 71, 72, 73, 74, 75, 76, 77, 78, 79, 80, 81, 82, 83, 84, 85] rfl (by decide +kernel)
set_option maxRecDepth 20000 in
theorem g_m_off_m_dark_146 : GoodIn w_m_off (wsV RX9 146 RX9 yX9_dark w_m_dark) := goodIn_r _ [17, 18, 19, 4, 20, 21, 22, 23, 4, 24, 25, 26, 27, 28, 6, 29, 30, 31, 32, 33, 34, 35, 36, 37, 38, 39, 40, 41, 42, 43, 44, 45, 7, 8, 9, 46, 47, 48, 49, 50, 51, 52, 53, 54, 58, 59, 60, 61, 62, 63, 64, 65, 66, 67, 68, 69, 70, 71, 72, 73, 74, 75, 76, 77, 78, 79, 80, 81, 82, 83, 84, 85] rfl (by decide +kernel)
set_option maxRecDepth 20000 in
theorem g_m_off_m_bits2_158 : GoodIn w_m_off (va_wsS RX9 158 yX9_bits w_m_bits2) := goodIn_r _ [55, 56, 4, 57] rfl (by decide +kernel)
set_option maxHeartbeats 4000000 in
set_option maxRecDepth 100000 in
theorem m_off (l : Launch) (dC : Nat → ClassId) (dI : Nat → Nat → Nat) (ad : Nat → Nat) (h0 : Nat) (a : Int32) (a0 : Nat) (v1 : Value) (p0 : Nat) (v3 : Value) (v4 : Value) (t0 : Nat) (v6 : Value) (v7 : Value) (v8 : Value) (v9 : Value) (v10 : Value) (v11 : Value) (v12 : Value) (v13 : Value) (v14 : Value) (v15 : Value) (v16 : Value) (v17 : Value) (v18 : Value) (v19 : Value) (v20 : Value) (v21 : Value) (v22 : Value) (v23 : Value) (v24 : Value) (v25 : Value) (v26 : Value) (v27 : Value) (tc : ClassId) (tf : Nat → Int32) (ac : ClassId) (nf : Nat → Int32) (pc : ClassId) (pf : Nat → Int64) (sz : Nat) (hI : mI nf) : Met l yX9_off w_m_off ({ frames := 8, cells := 0, slots := 0, locals := 193 } : Room) (va_Pc [.ref h0, .int a] (preM dC dI ad [(tc, .int), (ac, .int), (pc, .long)] [(h0, .inr (7, [.ref a0, v1, .ref p0, v3, v4, .ref t0, v6, v7, v8, v9, v10, v11, v12, v13, v14, v15, v16, v17, v18, v19, v20, v21, v22, v23, v24, v25, v26, v27])), (t0, .inl (tc, 8, .inl tf)), (a0, .inl (ac, 38, .inl nf)), (p0, .inl (pc, 7, .inr (.inl pf)))] sz)) (va_Qi (fun (r : Int32) (_ : Unit) => True) (fun _ t => ∃ (tg : Nat → Int32), va_P (dC, dI) vwCl [(h0, .inr (7, [.ref a0, v1, .ref p0, v3, v4, .ref t0, v6, v7, v8, v9, v10, v11, v12, v13, v14, v15, v16, v17, v18, v19, v20, v21, v22, v23, v24, v25, v26, v27])), (t0, .inl (tc, 8, .inl tg)), (a0, .inl (ac, 38, .inl nf)), (p0, .inl (pc, 7, .inr (.inl pf)))] t.heap ∧ va_K (dC, dI) vwCl [(tc, .int), (ac, .int), (pc, .long)] t ∧ va_D (va_A [(h0, .inr (7, [.ref a0, v1, .ref p0, v3, v4, .ref t0, v6, v7, v8, v9, v10, v11, v12, v13, v14, v15, v16, v17, v18, v19, v20, v21, v22, v23, v24, v25, v26, v27])), (t0, .inl (tc, 8, .inl tf)), (a0, .inl (ac, 38, .inl nf)), (p0, .inl (pc, 7, .inr (.inl pf)))] sz) [(h0, .inr (7, [.ref a0, v1, .ref p0, v3, v4, .ref t0, v6, v7, v8, v9, v10, v11, v12, v13, v14, v15, v16, v17, v18, v19, v20, v21, v22, v23, v24, v25, v26, v27])), (t0, .inl (tc, 8, .inl tg)), (a0, .inl (ac, 38, .inl nf)), (p0, .inl (pc, 7, .inr (.inl pf)))]) (va_A [(h0, .inr (7, [.ref a0, v1, .ref p0, v3, v4, .ref t0, v6, v7, v8, v9, v10, v11, v12, v13, v14, v15, v16, v17, v18, v19, v20, v21, v22, v23, v24, v25, v26, v27])), (t0, .inl (tc, 8, .inl tf)), (a0, .inl (ac, 38, .inl nf)), (p0, .inl (pc, 7, .inr (.inl pf)))] sz)) 0 0 (va_A [(h0, .inr (7, [.ref a0, v1, .ref p0, v3, v4, .ref t0, v6, v7, v8, v9, v10, v11, v12, v13, v14, v15, v16, v17, v18, v19, v20, v21, v22, v23, v24, v25, v26, v27])), (t0, .inl (tc, 8, .inl tf)), (a0, .inl (ac, 38, .inl nf)), (p0, .inl (pc, 7, .inr (.inl pf)))] sz) := by
  refine Met.ofW (cc := cX9_off) (maxL := 2) (ret := (some .int)) (by decide) rfl ?_
  intro p e s m args below meth c s₁ B hml hv
  obtain ⟨rfl, hsz, hP, hK, hD0, hev⟩ := hv
  have hx := B.exec
  have hb := B.bytes
  have hr := B.returns
  have hts := atoms_spec (ws := w_m_off) B.pre
  have hown : s.vm.findClass RX9 = some m.cls := findClass_of_methodNamed B.named
  have hlocks := B.notSynchronized
  have inX9 : ∀ w ∈ wsX90, w ∈ w_m_off := fun w h => List.mem_cons_of_mem _ (List.mem_append_right _ h)
  subst hsz
  have hD := hD0.self (sz := s.heap.size)
  generalize hAe : va_A [(h0, .inr (7, [.ref a0, v1, .ref p0, v3, v4, .ref t0, v6, v7, v8, v9, v10, v11, v12, v13, v14, v15, v16, v17, v18, v19, v20, v21, v22, v23, v24, v25, v26, v27])), (t0, .inl (tc, 8, .inl tf)), (a0, .inl (ac, 38, .inl nf)), (p0, .inl (pc, 7, .inr (.inl pf)))] s.heap.size = A at hD ⊢
  have hA : ∀ q : Nat, s.heap.size ≤ q → A q := fun q h => by rw [← hAe]; exact Or.inr h
  have hS : va_S A s.heap s.heap [] := va_S.rf
  have hP : va_P (dC, dI) vwCl [(h0, .inr (7, [.ref a0, v1, .ref p0, v3, v4, .ref t0, v6, v7, v8, v9, v10, v11, v12, v13, v14, v15, v16, v17, v18, v19, v20, v21, v22, v23, v24, v25, v26, v27])), (t0, .inl (tc, 8, .inl tf)), (a0, .inl (ac, 38, .inl nf)), (p0, .inl (pc, 7, .inr (.inl pf)))] s.heap := hP
  have hl := lv_entry ([.ref h0, .int a]) (n := 2) (Nat.le_of_ble_eq_true rfl)
  rw [lg_entry_eq]
  generalize (lg_sl ([.ref h0, .int a]) ++ List.replicate (2 - (lg_sl ([.ref h0, .int a])).length) Slot.unset).toArray = ls at hl ⊢
  have hl : lv_has ls 2 [(0, .ref h0), (1, .int a)] := hl
  refine lv_aload_n hx hb dX9_off_0 rfl (lv_at hl 0 rfl) ?_
  refine lv_iload_n hx hb dX9_off_1 rfl (lv_at hl 1 rfl) ?_
  have hPc := hP.sub (ws' := [(h0, .inr (7, [.ref a0, v1, .ref p0, v3, v4, .ref t0, v6, v7, v8, v9, v10, v11, v12, v13, v14, v15, v16, v17, v18, v19, v20, v21, v22, v23, v24, v25, v26, v27])), (a0, .inl (ac, 38, .inl nf))]) [0, 2] rfl
  have hKc := hK.sub (tys' := [(ac, .int)]) [1] rfl
  refine vp_callSi (W.runV (As := [.int a]) (rest := []) ⟨hx, hb, hml, hown, hts⟩ (m_isScene l dC dI ad h0 a a0 v1 (.ref p0) v3 v4 (.ref t0) v6 v7 v8 v9 v10 v11 v12 v13 v14 v15 v16 v17 v18 v19 v20 v21 v22 v23 v24 v25 v26 v27 ac nf hI) (cwV 1 hts g_m_off_m_isScene_155 rfl rfl rfl (by decide +kernel) ⟨(Nat.le_of_ble_eq_true rfl), (Nat.le_of_ble_eq_true rfl)⟩) ⟨preS_blind, va_recv hKc hPc (ci := 7) (q0 := 0) rfl rfl, fun U hU hW => ⟨rfl, preS_at hU hW hPc hKc hev⟩⟩ rfl rfl hl.1 rfl (lv_room (Nat.le_of_ble_eq_true rfl)) dX9_off_2 ⟨(Nat.le_of_ble_eq_true rfl), (Nat.le_of_ble_eq_true rfl)⟩) (fun r_1 hw => ?_)
  have hr_1 : (r_1.toInt = 1 ∧ 0 ≤ a.toInt ∧ a.toInt < (nf 1).toInt ∧ a.toInt ≤ 6) ∨ r_1.toInt = 0 := hw
  refine lv_if_eq (tgt := 25) hx hb dX9_off_5 (by decide) (fun c_2 => ?_) (fun c_2 => ?_)
  · skip
    have tc_2 : r_1.toInt = 0 := (fa_eq _ _).mp c_2
    refine lv_aload_n hx hb dX9_off_25 rfl (lv_at hl 0 rfl) ?_
    refine lv_ldc hx hb hown (hts _ (List.mem_of_getElem? (i := 10) rfl)) dX9_off_26 ?_
    have hPc := hP.sub (ws' := [(h0, .inr (7, [.ref a0, v1, .ref p0, v3, v4, .ref t0, v6, v7, v8, v9, v10, v11, v12, v13, v14, v15, v16, v17, v18, v19, v20, v21, v22, v23, v24, v25, v26, v27])), (t0, .inl (tc, 8, .inl tf))]) [0, 1] rfl
    have hKc := hK.sub (tys' := [(tc, .int)]) [0] rfl
    have hDc := hD.sub (ws' := [(h0, .inr (7, [.ref a0, v1, .ref p0, v3, v4, .ref t0, v6, v7, v8, v9, v10, v11, v12, v13, v14, v15, v16, v17, v18, v19, v20, v21, v22, v23, v24, v25, v26, v27])), (t0, .inl (tc, 8, .inl tf))]) [0, 1] (by decide) rfl
    have hFc := va_free (wc := [(h0, .inr (7, [.ref a0, v1, .ref p0, v3, v4, .ref t0, v6, v7, v8, v9, v10, v11, v12, v13, v14, v15, v16, v17, v18, v19, v20, v21, v22, v23, v24, v25, v26, v27])), (t0, .inl (tc, 8, .inl tf))]) hD hS hA [0, 1] rfl
    refine va_calli (va_runV (As := [.int (-1000000001)]) (rest := []) ⟨hx, hb, hml, hown, hts⟩ (mf_beyond l dC dI ad h0 (.ref a0) v1 (.ref p0) v3 v4 t0 v6 v7 v8 v9 v10 v11 v12 v13 v14 v15 v16 v17 v18 v19 v20 v21 v22 v23 v24 v25 v26 v27 tc tf s.heap.size ) (cwV 1 hts g_m_off_mf_beyond_84 rfl rfl rfl (by decide +kernel) ⟨(Nat.le_of_ble_eq_true rfl), (Nat.le_of_ble_eq_true rfl)⟩) ⟨preM_blind, va_recv hKc hPc (ci := 7) (q0 := 0) rfl rfl, fun U hU hW => ⟨rfl, preM_at hU hW hPc hKc hDc hev⟩⟩ rfl rfl hl.1 rfl (lv_room (Nat.le_of_ble_eq_true rfl)) dX9_off_28 ⟨(Nat.le_of_ble_eq_true rfl), (Nat.le_of_ble_eq_true rfl)⟩) hS (fun q _ h => hFc q h) hFc (fun r_3 u t H1 locs ht hvm hw hB hz1 hk1 hS => ?_)
    obtain ⟨tg_4, hP1, hK1, hD1⟩ := hB
    rw [ht] at hP1
    have hK1 := va_K.moved hvm.symm hK1
    obtain ⟨hP, hD⟩ := va_join (wr := [(a0, .inl (ac, 38, .inl nf)), (p0, .inl (pc, 7, .inr (.inl pf)))]) (w1 := [(h0, .inr (7, [.ref a0, v1, .ref p0, v3, v4, .ref t0, v6, v7, v8, v9, v10, v11, v12, v13, v14, v15, v16, v17, v18, v19, v20, v21, v22, v23, v24, v25, v26, v27])), (t0, .inl (tc, 8, .inl tg_4))]) hP hD [0, 1] [2, 3] rfl rfl (by decide) (by decide) hk1 hFc hP1 hD1
    generalize H1 = H at hP hS ⊢
    have hP : va_P (dC, dI) vwCl [(a0, .inl (ac, 38, .inl nf)), (p0, .inl (pc, 7, .inr (.inl pf))), (h0, .inr (7, [.ref a0, v1, .ref p0, v3, v4, .ref t0, v6, v7, v8, v9, v10, v11, v12, v13, v14, v15, v16, v17, v18, v19, v20, v21, v22, v23, v24, v25, v26, v27])), (t0, .inl (tc, 8, .inl tg_4))] H := hP
    have hD : va_D A [(a0, .inl (ac, 38, .inl nf)), (p0, .inl (pc, 7, .inr (.inl pf))), (h0, .inr (7, [.ref a0, v1, .ref p0, v3, v4, .ref t0, v6, v7, v8, v9, v10, v11, v12, v13, v14, v15, v16, v17, v18, v19, v20, v21, v22, v23, v24, v25, v26, v27])), (t0, .inl (tc, 8, .inl tg_4))] := hD
    subst hw
    have hP9 := hP.sub (ws' := [(h0, .inr (7, [.ref a0, v1, .ref p0, v3, v4, .ref t0, v6, v7, v8, v9, v10, v11, v12, v13, v14, v15, v16, v17, v18, v19, v20, v21, v22, v23, v24, v25, v26, v27])), (t0, .inl (tc, 8, .inl tg_4)), (a0, .inl (ac, 38, .inl nf)), (p0, .inl (pc, 7, .inr (.inl pf)))]) [2, 3, 0, 1] rfl
    have hD9 := hD.sub (ws' := [(h0, .inr (7, [.ref a0, v1, .ref p0, v3, v4, .ref t0, v6, v7, v8, v9, v10, v11, v12, v13, v14, v15, v16, v17, v18, v19, v20, v21, v22, v23, v24, v25, v26, v27])), (t0, .inl (tc, 8, .inl tg_4)), (a0, .inl (ac, 38, .inl nf)), (p0, .inl (pc, 7, .inr (.inl pf)))]) [2, 3, 0, 1] (by decide) rfl
    have hK9 := hK.sub (tys' := [(tc, .int), (ac, .int), (pc, .long)]) [0, 1, 2] rfl
    exact W.iret (v := ((-1000000001) : Int32)) hx hb hr (fun t ht hW => ⟨⟨((-1000000001) : Int32), (), rfl, trivial, tg_4, by rw [ht]; exact hP9, va_K.moved hW.alike hK9, hD9⟩, hS.F ht⟩) hS.2.2 dX9_off_31
  · skip
    have tc_2 : ¬ r_1.toInt = 0 := fun h => c_2 ((fa_eq _ _).mpr h)
    have i_5 : 0 ≤ a.toInt ∧ a.toInt < (nf 1).toInt ∧ a.toInt ≤ 6 := by omega
    refine lv_aload_n hx hb dX9_off_8 rfl (lv_at hl 0 rfl) ?_
    refine va_get (D := (dC, dI)) (ci := 7) (v := .ref p0) (C := RX9) (T := TX9) (N := 28) hx hb hts inX9 hown hK hP 0 rfl rfl 2 (by decide) (hts _ (List.mem_of_getElem? (i := 16) rfl)) (fun _ h9 => h9) rfl dX9_off_9 ?_
    refine lv_iload_n hx hb dX9_off_12 rfl (lv_at hl 1 rfl) ?_
    refine va_lald hx hb hK hP 3 2 rfl rfl (vp_in_iff.mpr ⟨by omega, by omega⟩) dX9_off_13 ?_
    refine lv_topl (fun n_6 en_6 => ?_)
    clear en_6
    refine lv_aload_n hx hb dX9_off_14 rfl (lv_at hl 0 rfl) ?_
    have hPc := hP.sub (ws' := [(h0, .inr (7, [.ref a0, v1, .ref p0, v3, v4, .ref t0, v6, v7, v8, v9, v10, v11, v12, v13, v14, v15, v16, v17, v18, v19, v20, v21, v22, v23, v24, v25, v26, v27])), (a0, .inl (ac, 38, .inl nf))]) [0, 2] rfl
    have hKc := hK.sub (tys' := [(ac, .int)]) [1] rfl
    refine vp_callSl (W.runV (As := []) (rest := [.long n_6]) ⟨hx, hb, hml, hown, hts⟩ (m_dark l dC dI ad h0 a0 v1 (.ref p0) v3 v4 (.ref t0) v6 v7 v8 v9 v10 v11 v12 v13 v14 v15 v16 v17 v18 v19 v20 v21 v22 v23 v24 v25 v26 v27 ac nf hI) (cwV 0 hts g_m_off_m_dark_146 rfl rfl rfl (by decide +kernel) ⟨(Nat.le_of_ble_eq_true rfl), (Nat.le_of_ble_eq_true rfl)⟩) ⟨preS_blind, va_recv hKc hPc (ci := 7) (q0 := 0) rfl rfl, fun U hU hW => ⟨rfl, preS_at hU hW hPc hKc hev⟩⟩ rfl rfl hl.1 rfl (lv_room (Nat.le_of_ble_eq_true rfl)) dX9_off_15 ⟨(Nat.le_of_ble_eq_true rfl), (Nat.le_of_ble_eq_true rfl)⟩) (fun r_7 hw => ?_)
    refine lv_lxor hx hb dX9_off_18 ?_
    refine lv_topl (fun n_8 en_8 => ?_)
    clear en_8
    have hPc := hP.sub (ws' := []) [] rfl
    have hKc := hK.sub (tys' := []) [] rfl
    refine vp_callSi (W.runS (As := [.long n_8]) (rest := []) ⟨hx, hb, hml, hown, hts⟩ (m_bits2 l dC dI ad n_8 ) (va_cwS 1 hts g_m_off_m_bits2_158 rfl rfl rfl (by decide +kernel) ⟨(Nat.le_of_ble_eq_true rfl), (Nat.le_of_ble_eq_true rfl)⟩) ⟨preS_blind, fun U hU hW => ⟨rfl, preS_at hU hW hPc hKc hev⟩⟩ rfl rfl hl.1 rfl (lv_room (Nat.le_of_ble_eq_true rfl)) dX9_off_19 ⟨(Nat.le_of_ble_eq_true rfl), (Nat.le_of_ble_eq_true rfl)⟩) (fun r_9 hw => ?_)
    have hr_9 : (0 ≤ r_9.toInt ∧ r_9.toInt ≤ 64) ∧ (n_8.toBitVec.toNat < 512 → r_9.toInt = (pop9 n_8.toBitVec.toNat : Int)) := hw
    refine lv_goto (tgt := 31) hx hb dX9_off_22 (by decide) ?_
    have hP9 := hP.sub (ws' := [(h0, .inr (7, [.ref a0, v1, .ref p0, v3, v4, .ref t0, v6, v7, v8, v9, v10, v11, v12, v13, v14, v15, v16, v17, v18, v19, v20, v21, v22, v23, v24, v25, v26, v27])), (t0, .inl (tc, 8, .inl tf)), (a0, .inl (ac, 38, .inl nf)), (p0, .inl (pc, 7, .inr (.inl pf)))]) [0, 1, 2, 3] rfl
    have hD9 := hD.sub (ws' := [(h0, .inr (7, [.ref a0, v1, .ref p0, v3, v4, .ref t0, v6, v7, v8, v9, v10, v11, v12, v13, v14, v15, v16, v17, v18, v19, v20, v21, v22, v23, v24, v25, v26, v27])), (t0, .inl (tc, 8, .inl tf)), (a0, .inl (ac, 38, .inl nf)), (p0, .inl (pc, 7, .inr (.inl pf)))]) [0, 1, 2, 3] (by decide) rfl
    have hK9 := hK.sub (tys' := [(tc, .int), (ac, .int), (pc, .long)]) [0, 1, 2] rfl
    exact W.iret (v := r_9) hx hb hr (fun t ht hW => ⟨⟨r_9, (), rfl, trivial, tf, by rw [ht]; exact hP9, va_K.moved hW.alike hK9, hD9⟩, hS.F ht⟩) hS.2.2 dX9_off_31

def w_m_changesOf : List Cond := .code yX9_changesOf cX9_changesOf 3 (some .int) :: (([.fieldLink RX9 16 "LampShapesModel" "pictures" "[J", .methodLink RX9 158 yX9_bits, .static yX9_bits, .initialized RX9, .code yX9_bits cX9_bits 5 (some .int)] : List Cond) ++ wsX90)
set_option maxRecDepth 20000 in
theorem g_m_changesOf_m_bits2_158 : GoodIn w_m_changesOf (va_wsS RX9 158 yX9_bits w_m_bits2) := goodIn_r _ [2, 3, 4, 5] rfl (by decide +kernel)
set_option maxHeartbeats 4000000 in
set_option maxRecDepth 100000 in
theorem m_changesOf (l : Launch) (dC : Nat → ClassId) (dI : Nat → Nat → Nat) (ad : Nat → Nat) (h0 : Nat) (k : Int32) (j : Int32) (v0 : Value) (v1 : Value) (p0 : Nat) (v3 : Value) (v4 : Value) (v5 : Value) (v6 : Value) (v7 : Value) (v8 : Value) (v9 : Value) (v10 : Value) (v11 : Value) (v12 : Value) (v13 : Value) (v14 : Value) (v15 : Value) (v16 : Value) (v17 : Value) (v18 : Value) (v19 : Value) (v20 : Value) (v21 : Value) (v22 : Value) (v23 : Value) (v24 : Value) (v25 : Value) (v26 : Value) (v27 : Value) (pc : ClassId) (pf : Nat → Int64) (hk : 0 ≤ k.toInt ∧ k.toInt ≤ 6) (hj : 0 ≤ j.toInt ∧ j.toInt ≤ 6) : Met l yX9_changesOf w_m_changesOf ({ frames := 1, cells := 0, slots := 0, locals := 24 } : Room) (va_Pc [.ref h0, .int k, .int j] (preS dC dI ad [(pc, .long)] [(h0, .inr (7, [v0, v1, .ref p0, v3, v4, v5, v6, v7, v8, v9, v10, v11, v12, v13, v14, v15, v16, v17, v18, v19, v20, v21, v22, v23, v24, v25, v26, v27])), (p0, .inl (pc, 7, .inr (.inl pf)))])) (vp_Si (fun r => True)) 0 0 (fun _ => False) := by
  refine Met.ofW (cc := cX9_changesOf) (maxL := 3) (ret := (some .int)) (by decide) rfl ?_
  intro p e s m args below meth c s₁ B hml hv
  obtain ⟨rfl, hP, hK, hev⟩ := hv
  have hx := B.exec
  have hb := B.bytes
  have hr := B.returns
  have hts := atoms_spec (ws := w_m_changesOf) B.pre
  have hown : s.vm.findClass RX9 = some m.cls := findClass_of_methodNamed B.named
  have hlocks := B.notSynchronized
  have inX9 : ∀ w ∈ wsX90, w ∈ w_m_changesOf := fun w h => List.mem_cons_of_mem _ (List.mem_append_right _ h)
  have hP : va_P (dC, dI) vwCl [(h0, .inr (7, [v0, v1, .ref p0, v3, v4, v5, v6, v7, v8, v9, v10, v11, v12, v13, v14, v15, v16, v17, v18, v19, v20, v21, v22, v23, v24, v25, v26, v27])), (p0, .inl (pc, 7, .inr (.inl pf)))] s.heap := hP
  have hl := lv_entry ([.ref h0, .int k, .int j]) (n := 3) (Nat.le_of_ble_eq_true rfl)
  rw [lg_entry_eq]
  generalize (lg_sl ([.ref h0, .int k, .int j]) ++ List.replicate (3 - (lg_sl ([.ref h0, .int k, .int j])).length) Slot.unset).toArray = ls at hl ⊢
  have hl : lv_has ls 3 [(0, .ref h0), (1, .int k), (2, .int j)] := hl
  refine lv_aload_n hx hb dX9_changesOf_0 rfl (lv_at hl 0 rfl) ?_
  refine va_get (D := (dC, dI)) (ci := 7) (v := .ref p0) (C := RX9) (T := TX9) (N := 28) hx hb hts inX9 hown hK hP 0 rfl rfl 2 (by decide) (hts _ (List.mem_of_getElem? (i := 1) rfl)) (fun _ h9 => h9) rfl dX9_changesOf_1 ?_
  refine lv_iload_n hx hb dX9_changesOf_4 rfl (lv_at hl 1 rfl) ?_
  refine va_lald hx hb hK hP 1 0 rfl rfl (vp_in_iff.mpr ⟨by omega, by omega⟩) dX9_changesOf_5 ?_
  refine lv_topl (fun n_1 en_1 => ?_)
  clear en_1
  refine lv_aload_n hx hb dX9_changesOf_6 rfl (lv_at hl 0 rfl) ?_
  refine va_get (D := (dC, dI)) (ci := 7) (v := .ref p0) (C := RX9) (T := TX9) (N := 28) hx hb hts inX9 hown hK hP 0 rfl rfl 2 (by decide) (hts _ (List.mem_of_getElem? (i := 1) rfl)) (fun _ h9 => h9) rfl dX9_changesOf_7 ?_
  refine lv_iload_n hx hb dX9_changesOf_10 rfl (lv_at hl 2 rfl) ?_
  refine va_lald hx hb hK hP 1 0 rfl rfl (vp_in_iff.mpr ⟨by omega, by omega⟩) dX9_changesOf_11 ?_
  refine lv_topl (fun n_2 en_2 => ?_)
  clear en_2
  refine lv_lxor hx hb dX9_changesOf_12 ?_
  refine lv_topl (fun n_3 en_3 => ?_)
  clear en_3
  have hPc := hP.sub (ws' := []) [] rfl
  have hKc := hK.sub (tys' := []) [] rfl
  refine vp_callSi (W.runS (As := [.long n_3]) (rest := []) ⟨hx, hb, hml, hown, hts⟩ (m_bits2 l dC dI ad n_3 ) (va_cwS 1 hts g_m_changesOf_m_bits2_158 rfl rfl rfl (by decide +kernel) ⟨(Nat.le_of_ble_eq_true rfl), (Nat.le_of_ble_eq_true rfl)⟩) ⟨preS_blind, fun U hU hW => ⟨rfl, preS_at hU hW hPc hKc hev⟩⟩ rfl rfl hl.1 rfl (lv_room (Nat.le_of_ble_eq_true rfl)) dX9_changesOf_13 ⟨(Nat.le_of_ble_eq_true rfl), (Nat.le_of_ble_eq_true rfl)⟩) (fun r_4 hw => ?_)
  have hr_4 : (0 ≤ r_4.toInt ∧ r_4.toInt ≤ 64) ∧ (n_3.toBitVec.toNat < 512 → r_4.toInt = (pop9 n_3.toBitVec.toNat : Int)) := hw
  refine lv_iconst (v := 3) hx hb dX9_changesOf_16 (by decide) ?_
  refine lv_iadd hx hb dX9_changesOf_17 ?_
  refine lv_topi (fun n_5 en_5 => ?_)
  clear en_5
  refine lv_iconst (v := 4) hx hb dX9_changesOf_18 (by decide) ?_
  refine lv_idiv hx hb dX9_changesOf_19 (by decide) ?_
  refine lv_topi (fun n_6 en_6 => ?_)
  clear en_6
  exact W.iret (v := n_6) hx hb hr (fun t ht hW => ⟨n_6, rfl, trivial, ht⟩) (fun _ h => absurd h List.not_mem_nil) dX9_changesOf_20

def w_m_changes : List Cond := .code yX9_changes cX9_changes 3 (some .int) :: (([.methodLink RX9 155 yX9_isScene, .instanceMethod yX9_isScene, .selects RX9 yX9_isScene yX9_isScene, .initialized RX9, .code yX9_isScene cX9_isScene 2 (some .boolean), .fieldLink RX9 9 "LampShapesModel" "now" "[I", .methodLink RX9 75 yX9_within, .static yX9_within, .code yX9_within cX9_within 3 (some .boolean), .constant RX9 74 (-1000000001), .methodLink RX9 84 yX9_finding, .instanceMethod yX9_finding, .selects RX9 yX9_finding yX9_finding, .code yX9_finding cX9_finding 2 (some .int), .fieldLink RX9 23 "LampShapesModel" "found" "[I", .methodLink RX9 161 yX9_changesOf, .instanceMethod yX9_changesOf, .selects RX9 yX9_changesOf yX9_changesOf, .code yX9_changesOf cX9_changesOf 3 (some .int), .fieldLink RX9 16 "LampShapesModel" "pictures" "[J", .methodLink RX9 158 yX9_bits, .static yX9_bits, .code yX9_bits cX9_bits 5 (some .int)] : List Cond) ++ wsX90)
set_option maxRecDepth 20000 in
theorem g_m_changes_m_isScene_155 : GoodIn w_m_changes (wsV RX9 155 RX9 yX9_isScene w_m_isScene) := goodIn_r _ [1, 2, 3, 4, 5, 6, 7, 8, 4, 9, 24, 25, 26, 27, 28, 29, 30, 31, 32, 33, 34, 35, 36, 37, 38, 39, 40, 41, 42, 43, 44, 45, 46, 47, 48, 49, 50, 51] rfl (by decide +kernel)
set_option maxRecDepth 20000 in
theorem g_m_changes_mf_beyond_84 : GoodIn w_m_changes (wsV RX9 84 RX9 yX9_finding w_mf_beyond) := goodIn_r _ [11, 12, 13, 4, 14, 15, 10, 24, 25, 26, 27, 28, 29, 30, 31, 32, 33, 34, 35, 36, 37, 38, 39, 40, 41, 42, 43, 44, 45, 46, 47, 48, 49, 50, 51] rfl (by decide +kernel)
set_option maxRecDepth 20000 in
theorem g_m_changes_m_changesOf_161 : GoodIn w_m_changes (wsV RX9 161 RX9 yX9_changesOf w_m_changesOf) := goodIn_r _ [16, 17, 18, 4, 19, 20, 21, 22, 4, 23, 24, 25, 26, 27, 28, 29, 30, 31, 32, 33, 34, 35, 36, 37, 38, 39, 40, 41, 42, 43, 44, 45, 46, 47, 48, 49, 50, 51] rfl (by decide +kernel)
set_option maxHeartbeats 4000000 in
set_option maxRecDepth 100000 in
theorem m_changes (l : Launch) (dC : Nat → ClassId) (dI : Nat → Nat → Nat) (ad : Nat → Nat) (h0 : Nat) (a : Int32) (b : Int32) (a0 : Nat) (v1 : Value) (p0 : Nat) (v3 : Value) (v4 : Value) (t0 : Nat) (v6 : Value) (v7 : Value) (v8 : Value) (v9 : Value) (v10 : Value) (v11 : Value) (v12 : Value) (v13 : Value) (v14 : Value) (v15 : Value) (v16 : Value) (v17 : Value) (v18 : Value) (v19 : Value) (v20 : Value) (v21 : Value) (v22 : Value) (v23 : Value) (v24 : Value) (v25 : Value) (v26 : Value) (v27 : Value) (tc : ClassId) (tf : Nat → Int32) (ac : ClassId) (nf : Nat → Int32) (pc : ClassId) (pf : Nat → Int64) (sz : Nat) (hI : mI nf) : Met l yX9_changes w_m_changes ({ frames := 2, cells := 0, slots := 0, locals := 46 } : Room) (va_Pc [.ref h0, .int a, .int b] (preM dC dI ad [(tc, .int), (ac, .int), (pc, .long)] [(h0, .inr (7, [.ref a0, v1, .ref p0, v3, v4, .ref t0, v6, v7, v8, v9, v10, v11, v12, v13, v14, v15, v16, v17, v18, v19, v20, v21, v22, v23, v24, v25, v26, v27])), (t0, .inl (tc, 8, .inl tf)), (a0, .inl (ac, 38, .inl nf)), (p0, .inl (pc, 7, .inr (.inl pf)))] sz)) (va_Qi (fun (r : Int32) (_ : Unit) => True) (fun _ t => ∃ (tg : Nat → Int32), va_P (dC, dI) vwCl [(h0, .inr (7, [.ref a0, v1, .ref p0, v3, v4, .ref t0, v6, v7, v8, v9, v10, v11, v12, v13, v14, v15, v16, v17, v18, v19, v20, v21, v22, v23, v24, v25, v26, v27])), (t0, .inl (tc, 8, .inl tg)), (a0, .inl (ac, 38, .inl nf)), (p0, .inl (pc, 7, .inr (.inl pf)))] t.heap ∧ va_K (dC, dI) vwCl [(tc, .int), (ac, .int), (pc, .long)] t ∧ va_D (va_A [(h0, .inr (7, [.ref a0, v1, .ref p0, v3, v4, .ref t0, v6, v7, v8, v9, v10, v11, v12, v13, v14, v15, v16, v17, v18, v19, v20, v21, v22, v23, v24, v25, v26, v27])), (t0, .inl (tc, 8, .inl tf)), (a0, .inl (ac, 38, .inl nf)), (p0, .inl (pc, 7, .inr (.inl pf)))] sz) [(h0, .inr (7, [.ref a0, v1, .ref p0, v3, v4, .ref t0, v6, v7, v8, v9, v10, v11, v12, v13, v14, v15, v16, v17, v18, v19, v20, v21, v22, v23, v24, v25, v26, v27])), (t0, .inl (tc, 8, .inl tg)), (a0, .inl (ac, 38, .inl nf)), (p0, .inl (pc, 7, .inr (.inl pf)))]) (va_A [(h0, .inr (7, [.ref a0, v1, .ref p0, v3, v4, .ref t0, v6, v7, v8, v9, v10, v11, v12, v13, v14, v15, v16, v17, v18, v19, v20, v21, v22, v23, v24, v25, v26, v27])), (t0, .inl (tc, 8, .inl tf)), (a0, .inl (ac, 38, .inl nf)), (p0, .inl (pc, 7, .inr (.inl pf)))] sz)) 0 0 (va_A [(h0, .inr (7, [.ref a0, v1, .ref p0, v3, v4, .ref t0, v6, v7, v8, v9, v10, v11, v12, v13, v14, v15, v16, v17, v18, v19, v20, v21, v22, v23, v24, v25, v26, v27])), (t0, .inl (tc, 8, .inl tf)), (a0, .inl (ac, 38, .inl nf)), (p0, .inl (pc, 7, .inr (.inl pf)))] sz) := by
  refine Met.ofW (cc := cX9_changes) (maxL := 3) (ret := (some .int)) (by decide) rfl ?_
  intro p e s m args below meth c s₁ B hml hv
  obtain ⟨rfl, hsz, hP, hK, hD0, hev⟩ := hv
  have hx := B.exec
  have hb := B.bytes
  have hr := B.returns
  have hts := atoms_spec (ws := w_m_changes) B.pre
  have hown : s.vm.findClass RX9 = some m.cls := findClass_of_methodNamed B.named
  have hlocks := B.notSynchronized
  have inX9 : ∀ w ∈ wsX90, w ∈ w_m_changes := fun w h => List.mem_cons_of_mem _ (List.mem_append_right _ h)
  subst hsz
  have hD := hD0.self (sz := s.heap.size)
  generalize hAe : va_A [(h0, .inr (7, [.ref a0, v1, .ref p0, v3, v4, .ref t0, v6, v7, v8, v9, v10, v11, v12, v13, v14, v15, v16, v17, v18, v19, v20, v21, v22, v23, v24, v25, v26, v27])), (t0, .inl (tc, 8, .inl tf)), (a0, .inl (ac, 38, .inl nf)), (p0, .inl (pc, 7, .inr (.inl pf)))] s.heap.size = A at hD ⊢
  have hA : ∀ q : Nat, s.heap.size ≤ q → A q := fun q h => by rw [← hAe]; exact Or.inr h
  have hS : va_S A s.heap s.heap [] := va_S.rf
  have hP : va_P (dC, dI) vwCl [(h0, .inr (7, [.ref a0, v1, .ref p0, v3, v4, .ref t0, v6, v7, v8, v9, v10, v11, v12, v13, v14, v15, v16, v17, v18, v19, v20, v21, v22, v23, v24, v25, v26, v27])), (t0, .inl (tc, 8, .inl tf)), (a0, .inl (ac, 38, .inl nf)), (p0, .inl (pc, 7, .inr (.inl pf)))] s.heap := hP
  have hl := lv_entry ([.ref h0, .int a, .int b]) (n := 3) (Nat.le_of_ble_eq_true rfl)
  rw [lg_entry_eq]
  generalize (lg_sl ([.ref h0, .int a, .int b]) ++ List.replicate (3 - (lg_sl ([.ref h0, .int a, .int b])).length) Slot.unset).toArray = ls at hl ⊢
  have hl : lv_has ls 3 [(0, .ref h0), (1, .int a), (2, .int b)] := hl
  refine lv_aload_n hx hb dX9_changes_0 rfl (lv_at hl 0 rfl) ?_
  refine lv_iload_n hx hb dX9_changes_1 rfl (lv_at hl 1 rfl) ?_
  have hPc := hP.sub (ws' := [(h0, .inr (7, [.ref a0, v1, .ref p0, v3, v4, .ref t0, v6, v7, v8, v9, v10, v11, v12, v13, v14, v15, v16, v17, v18, v19, v20, v21, v22, v23, v24, v25, v26, v27])), (a0, .inl (ac, 38, .inl nf))]) [0, 2] rfl
  have hKc := hK.sub (tys' := [(ac, .int)]) [1] rfl
  refine vp_callSi (W.runV (As := [.int a]) (rest := []) ⟨hx, hb, hml, hown, hts⟩ (m_isScene l dC dI ad h0 a a0 v1 (.ref p0) v3 v4 (.ref t0) v6 v7 v8 v9 v10 v11 v12 v13 v14 v15 v16 v17 v18 v19 v20 v21 v22 v23 v24 v25 v26 v27 ac nf hI) (cwV 1 hts g_m_changes_m_isScene_155 rfl rfl rfl (by decide +kernel) ⟨(Nat.le_of_ble_eq_true rfl), (Nat.le_of_ble_eq_true rfl)⟩) ⟨preS_blind, va_recv hKc hPc (ci := 7) (q0 := 0) rfl rfl, fun U hU hW => ⟨rfl, preS_at hU hW hPc hKc hev⟩⟩ rfl rfl hl.1 rfl (lv_room (Nat.le_of_ble_eq_true rfl)) dX9_changes_2 ⟨(Nat.le_of_ble_eq_true rfl), (Nat.le_of_ble_eq_true rfl)⟩) (fun r_1 hw => ?_)
  have hr_1 : (r_1.toInt = 1 ∧ 0 ≤ a.toInt ∧ a.toInt < (nf 1).toInt ∧ a.toInt ≤ 6) ∨ r_1.toInt = 0 := hw
  refine lv_if_eq (tgt := 25) hx hb dX9_changes_5 (by decide) (fun c_2 => ?_) (fun c_2 => ?_)
  · skip
    have tc_2 : r_1.toInt = 0 := (fa_eq _ _).mp c_2
    refine lv_aload_n hx hb dX9_changes_25 rfl (lv_at hl 0 rfl) ?_
    refine lv_ldc hx hb hown (hts _ (List.mem_of_getElem? (i := 10) rfl)) dX9_changes_26 ?_
    have hPc := hP.sub (ws' := [(h0, .inr (7, [.ref a0, v1, .ref p0, v3, v4, .ref t0, v6, v7, v8, v9, v10, v11, v12, v13, v14, v15, v16, v17, v18, v19, v20, v21, v22, v23, v24, v25, v26, v27])), (t0, .inl (tc, 8, .inl tf))]) [0, 1] rfl
    have hKc := hK.sub (tys' := [(tc, .int)]) [0] rfl
    have hDc := hD.sub (ws' := [(h0, .inr (7, [.ref a0, v1, .ref p0, v3, v4, .ref t0, v6, v7, v8, v9, v10, v11, v12, v13, v14, v15, v16, v17, v18, v19, v20, v21, v22, v23, v24, v25, v26, v27])), (t0, .inl (tc, 8, .inl tf))]) [0, 1] (by decide) rfl
    have hFc := va_free (wc := [(h0, .inr (7, [.ref a0, v1, .ref p0, v3, v4, .ref t0, v6, v7, v8, v9, v10, v11, v12, v13, v14, v15, v16, v17, v18, v19, v20, v21, v22, v23, v24, v25, v26, v27])), (t0, .inl (tc, 8, .inl tf))]) hD hS hA [0, 1] rfl
    refine va_calli (va_runV (As := [.int (-1000000001)]) (rest := []) ⟨hx, hb, hml, hown, hts⟩ (mf_beyond l dC dI ad h0 (.ref a0) v1 (.ref p0) v3 v4 t0 v6 v7 v8 v9 v10 v11 v12 v13 v14 v15 v16 v17 v18 v19 v20 v21 v22 v23 v24 v25 v26 v27 tc tf s.heap.size ) (cwV 1 hts g_m_changes_mf_beyond_84 rfl rfl rfl (by decide +kernel) ⟨(Nat.le_of_ble_eq_true rfl), (Nat.le_of_ble_eq_true rfl)⟩) ⟨preM_blind, va_recv hKc hPc (ci := 7) (q0 := 0) rfl rfl, fun U hU hW => ⟨rfl, preM_at hU hW hPc hKc hDc hev⟩⟩ rfl rfl hl.1 rfl (lv_room (Nat.le_of_ble_eq_true rfl)) dX9_changes_28 ⟨(Nat.le_of_ble_eq_true rfl), (Nat.le_of_ble_eq_true rfl)⟩) hS (fun q _ h => hFc q h) hFc (fun r_3 u t H1 locs ht hvm hw hB hz1 hk1 hS => ?_)
    obtain ⟨tg_4, hP1, hK1, hD1⟩ := hB
    rw [ht] at hP1
    have hK1 := va_K.moved hvm.symm hK1
    obtain ⟨hP, hD⟩ := va_join (wr := [(a0, .inl (ac, 38, .inl nf)), (p0, .inl (pc, 7, .inr (.inl pf)))]) (w1 := [(h0, .inr (7, [.ref a0, v1, .ref p0, v3, v4, .ref t0, v6, v7, v8, v9, v10, v11, v12, v13, v14, v15, v16, v17, v18, v19, v20, v21, v22, v23, v24, v25, v26, v27])), (t0, .inl (tc, 8, .inl tg_4))]) hP hD [0, 1] [2, 3] rfl rfl (by decide) (by decide) hk1 hFc hP1 hD1
    generalize H1 = H at hP hS ⊢
    have hP : va_P (dC, dI) vwCl [(a0, .inl (ac, 38, .inl nf)), (p0, .inl (pc, 7, .inr (.inl pf))), (h0, .inr (7, [.ref a0, v1, .ref p0, v3, v4, .ref t0, v6, v7, v8, v9, v10, v11, v12, v13, v14, v15, v16, v17, v18, v19, v20, v21, v22, v23, v24, v25, v26, v27])), (t0, .inl (tc, 8, .inl tg_4))] H := hP
    have hD : va_D A [(a0, .inl (ac, 38, .inl nf)), (p0, .inl (pc, 7, .inr (.inl pf))), (h0, .inr (7, [.ref a0, v1, .ref p0, v3, v4, .ref t0, v6, v7, v8, v9, v10, v11, v12, v13, v14, v15, v16, v17, v18, v19, v20, v21, v22, v23, v24, v25, v26, v27])), (t0, .inl (tc, 8, .inl tg_4))] := hD
    subst hw
    have hP9 := hP.sub (ws' := [(h0, .inr (7, [.ref a0, v1, .ref p0, v3, v4, .ref t0, v6, v7, v8, v9, v10, v11, v12, v13, v14, v15, v16, v17, v18, v19, v20, v21, v22, v23, v24, v25, v26, v27])), (t0, .inl (tc, 8, .inl tg_4)), (a0, .inl (ac, 38, .inl nf)), (p0, .inl (pc, 7, .inr (.inl pf)))]) [2, 3, 0, 1] rfl
    have hD9 := hD.sub (ws' := [(h0, .inr (7, [.ref a0, v1, .ref p0, v3, v4, .ref t0, v6, v7, v8, v9, v10, v11, v12, v13, v14, v15, v16, v17, v18, v19, v20, v21, v22, v23, v24, v25, v26, v27])), (t0, .inl (tc, 8, .inl tg_4)), (a0, .inl (ac, 38, .inl nf)), (p0, .inl (pc, 7, .inr (.inl pf)))]) [2, 3, 0, 1] (by decide) rfl
    have hK9 := hK.sub (tys' := [(tc, .int), (ac, .int), (pc, .long)]) [0, 1, 2] rfl
    exact W.iret (v := ((-1000000001) : Int32)) hx hb hr (fun t ht hW => ⟨⟨((-1000000001) : Int32), (), rfl, trivial, tg_4, by rw [ht]; exact hP9, va_K.moved hW.alike hK9, hD9⟩, hS.F ht⟩) hS.2.2 dX9_changes_31
  · skip
    have tc_2 : ¬ r_1.toInt = 0 := fun h => c_2 ((fa_eq _ _).mpr h)
    have i_5 : 0 ≤ a.toInt ∧ a.toInt < (nf 1).toInt ∧ a.toInt ≤ 6 := by omega
    refine lv_aload_n hx hb dX9_changes_8 rfl (lv_at hl 0 rfl) ?_
    refine lv_iload_n hx hb dX9_changes_9 rfl (lv_at hl 2 rfl) ?_
    have hPc := hP.sub (ws' := [(h0, .inr (7, [.ref a0, v1, .ref p0, v3, v4, .ref t0, v6, v7, v8, v9, v10, v11, v12, v13, v14, v15, v16, v17, v18, v19, v20, v21, v22, v23, v24, v25, v26, v27])), (a0, .inl (ac, 38, .inl nf))]) [0, 2] rfl
    have hKc := hK.sub (tys' := [(ac, .int)]) [1] rfl
    refine vp_callSi (W.runV (As := [.int b]) (rest := []) ⟨hx, hb, hml, hown, hts⟩ (m_isScene l dC dI ad h0 b a0 v1 (.ref p0) v3 v4 (.ref t0) v6 v7 v8 v9 v10 v11 v12 v13 v14 v15 v16 v17 v18 v19 v20 v21 v22 v23 v24 v25 v26 v27 ac nf hI) (cwV 1 hts g_m_changes_m_isScene_155 rfl rfl rfl (by decide +kernel) ⟨(Nat.le_of_ble_eq_true rfl), (Nat.le_of_ble_eq_true rfl)⟩) ⟨preS_blind, va_recv hKc hPc (ci := 7) (q0 := 0) rfl rfl, fun U hU hW => ⟨rfl, preS_at hU hW hPc hKc hev⟩⟩ rfl rfl hl.1 rfl (lv_room (Nat.le_of_ble_eq_true rfl)) dX9_changes_10 ⟨(Nat.le_of_ble_eq_true rfl), (Nat.le_of_ble_eq_true rfl)⟩) (fun r_6 hw => ?_)
    have hr_6 : (r_6.toInt = 1 ∧ 0 ≤ b.toInt ∧ b.toInt < (nf 1).toInt ∧ b.toInt ≤ 6) ∨ r_6.toInt = 0 := hw
    refine lv_if_eq (tgt := 25) hx hb dX9_changes_13 (by decide) (fun c_7 => ?_) (fun c_7 => ?_)
    · skip
      have tc_7 : r_6.toInt = 0 := (fa_eq _ _).mp c_7
      refine lv_aload_n hx hb dX9_changes_25 rfl (lv_at hl 0 rfl) ?_
      refine lv_ldc hx hb hown (hts _ (List.mem_of_getElem? (i := 10) rfl)) dX9_changes_26 ?_
      have hPc := hP.sub (ws' := [(h0, .inr (7, [.ref a0, v1, .ref p0, v3, v4, .ref t0, v6, v7, v8, v9, v10, v11, v12, v13, v14, v15, v16, v17, v18, v19, v20, v21, v22, v23, v24, v25, v26, v27])), (t0, .inl (tc, 8, .inl tf))]) [0, 1] rfl
      have hKc := hK.sub (tys' := [(tc, .int)]) [0] rfl
      have hDc := hD.sub (ws' := [(h0, .inr (7, [.ref a0, v1, .ref p0, v3, v4, .ref t0, v6, v7, v8, v9, v10, v11, v12, v13, v14, v15, v16, v17, v18, v19, v20, v21, v22, v23, v24, v25, v26, v27])), (t0, .inl (tc, 8, .inl tf))]) [0, 1] (by decide) rfl
      have hFc := va_free (wc := [(h0, .inr (7, [.ref a0, v1, .ref p0, v3, v4, .ref t0, v6, v7, v8, v9, v10, v11, v12, v13, v14, v15, v16, v17, v18, v19, v20, v21, v22, v23, v24, v25, v26, v27])), (t0, .inl (tc, 8, .inl tf))]) hD hS hA [0, 1] rfl
      refine va_calli (va_runV (As := [.int (-1000000001)]) (rest := []) ⟨hx, hb, hml, hown, hts⟩ (mf_beyond l dC dI ad h0 (.ref a0) v1 (.ref p0) v3 v4 t0 v6 v7 v8 v9 v10 v11 v12 v13 v14 v15 v16 v17 v18 v19 v20 v21 v22 v23 v24 v25 v26 v27 tc tf s.heap.size ) (cwV 1 hts g_m_changes_mf_beyond_84 rfl rfl rfl (by decide +kernel) ⟨(Nat.le_of_ble_eq_true rfl), (Nat.le_of_ble_eq_true rfl)⟩) ⟨preM_blind, va_recv hKc hPc (ci := 7) (q0 := 0) rfl rfl, fun U hU hW => ⟨rfl, preM_at hU hW hPc hKc hDc hev⟩⟩ rfl rfl hl.1 rfl (lv_room (Nat.le_of_ble_eq_true rfl)) dX9_changes_28 ⟨(Nat.le_of_ble_eq_true rfl), (Nat.le_of_ble_eq_true rfl)⟩) hS (fun q _ h => hFc q h) hFc (fun r_8 u t H1 locs ht hvm hw hB hz1 hk1 hS => ?_)
      obtain ⟨tg_9, hP1, hK1, hD1⟩ := hB
      rw [ht] at hP1
      have hK1 := va_K.moved hvm.symm hK1
      obtain ⟨hP, hD⟩ := va_join (wr := [(a0, .inl (ac, 38, .inl nf)), (p0, .inl (pc, 7, .inr (.inl pf)))]) (w1 := [(h0, .inr (7, [.ref a0, v1, .ref p0, v3, v4, .ref t0, v6, v7, v8, v9, v10, v11, v12, v13, v14, v15, v16, v17, v18, v19, v20, v21, v22, v23, v24, v25, v26, v27])), (t0, .inl (tc, 8, .inl tg_9))]) hP hD [0, 1] [2, 3] rfl rfl (by decide) (by decide) hk1 hFc hP1 hD1
      generalize H1 = H at hP hS ⊢
      have hP : va_P (dC, dI) vwCl [(a0, .inl (ac, 38, .inl nf)), (p0, .inl (pc, 7, .inr (.inl pf))), (h0, .inr (7, [.ref a0, v1, .ref p0, v3, v4, .ref t0, v6, v7, v8, v9, v10, v11, v12, v13, v14, v15, v16, v17, v18, v19, v20, v21, v22, v23, v24, v25, v26, v27])), (t0, .inl (tc, 8, .inl tg_9))] H := hP
      have hD : va_D A [(a0, .inl (ac, 38, .inl nf)), (p0, .inl (pc, 7, .inr (.inl pf))), (h0, .inr (7, [.ref a0, v1, .ref p0, v3, v4, .ref t0, v6, v7, v8, v9, v10, v11, v12, v13, v14, v15, v16, v17, v18, v19, v20, v21, v22, v23, v24, v25, v26, v27])), (t0, .inl (tc, 8, .inl tg_9))] := hD
      subst hw
      have hP9 := hP.sub (ws' := [(h0, .inr (7, [.ref a0, v1, .ref p0, v3, v4, .ref t0, v6, v7, v8, v9, v10, v11, v12, v13, v14, v15, v16, v17, v18, v19, v20, v21, v22, v23, v24, v25, v26, v27])), (t0, .inl (tc, 8, .inl tg_9)), (a0, .inl (ac, 38, .inl nf)), (p0, .inl (pc, 7, .inr (.inl pf)))]) [2, 3, 0, 1] rfl
      have hD9 := hD.sub (ws' := [(h0, .inr (7, [.ref a0, v1, .ref p0, v3, v4, .ref t0, v6, v7, v8, v9, v10, v11, v12, v13, v14, v15, v16, v17, v18, v19, v20, v21, v22, v23, v24, v25, v26, v27])), (t0, .inl (tc, 8, .inl tg_9)), (a0, .inl (ac, 38, .inl nf)), (p0, .inl (pc, 7, .inr (.inl pf)))]) [2, 3, 0, 1] (by decide) rfl
      have hK9 := hK.sub (tys' := [(tc, .int), (ac, .int), (pc, .long)]) [0, 1, 2] rfl
      exact W.iret (v := ((-1000000001) : Int32)) hx hb hr (fun t ht hW => ⟨⟨((-1000000001) : Int32), (), rfl, trivial, tg_9, by rw [ht]; exact hP9, va_K.moved hW.alike hK9, hD9⟩, hS.F ht⟩) hS.2.2 dX9_changes_31
    · skip
      have tc_7 : ¬ r_6.toInt = 0 := fun h => c_7 ((fa_eq _ _).mpr h)
      have i_10 : 0 ≤ b.toInt ∧ b.toInt < (nf 1).toInt ∧ b.toInt ≤ 6 := by omega
      refine lv_aload_n hx hb dX9_changes_16 rfl (lv_at hl 0 rfl) ?_
      refine lv_iload_n hx hb dX9_changes_17 rfl (lv_at hl 1 rfl) ?_
      refine lv_iload_n hx hb dX9_changes_18 rfl (lv_at hl 2 rfl) ?_
      have hPc := hP.sub (ws' := [(h0, .inr (7, [.ref a0, v1, .ref p0, v3, v4, .ref t0, v6, v7, v8, v9, v10, v11, v12, v13, v14, v15, v16, v17, v18, v19, v20, v21, v22, v23, v24, v25, v26, v27])), (p0, .inl (pc, 7, .inr (.inl pf)))]) [0, 3] rfl
      have hKc := hK.sub (tys' := [(pc, .long)]) [2] rfl
      refine vp_callSi (W.runV (As := [.int a, .int b]) (rest := []) ⟨hx, hb, hml, hown, hts⟩ (m_changesOf l dC dI ad h0 a b (.ref a0) v1 p0 v3 v4 (.ref t0) v6 v7 v8 v9 v10 v11 v12 v13 v14 v15 v16 v17 v18 v19 v20 v21 v22 v23 v24 v25 v26 v27 pc pf (by first | omega | decide | (simp only [fa_lt, fa_le, fa_eq, and_true, true_and, and_false, false_and, not_true_eq_false, not_false_eq_true, li_0, li_1, li_2, li_3, li_4, li_5, li_6, li_7, li_8, li_9, li_10, li_12, li_15, li_16, li_20, li_30, li_34, li_38, li_40, li_63, li_64, li_65, li_78, li_120, li_1000, li_4000, li_10000, li_11077, li_255, li_65535, li_m1, li_m2, li_m1000000001, li_m1000000002, li_m1000000003, li_m1000000004, li_m1000000005, li_m1000000006, li_m1000000007, or_true, true_or, or_false, false_or, implies_true, true_implies, false_implies] <;> omega)) (by first | omega | decide | (simp only [fa_lt, fa_le, fa_eq, and_true, true_and, and_false, false_and, not_true_eq_false, not_false_eq_true, li_0, li_1, li_2, li_3, li_4, li_5, li_6, li_7, li_8, li_9, li_10, li_12, li_15, li_16, li_20, li_30, li_34, li_38, li_40, li_63, li_64, li_65, li_78, li_120, li_1000, li_4000, li_10000, li_11077, li_255, li_65535, li_m1, li_m2, li_m1000000001, li_m1000000002, li_m1000000003, li_m1000000004, li_m1000000005, li_m1000000006, li_m1000000007, or_true, true_or, or_false, false_or, implies_true, true_implies, false_implies] <;> omega))) (cwV 2 hts g_m_changes_m_changesOf_161 rfl rfl rfl (by decide +kernel) ⟨(Nat.le_of_ble_eq_true rfl), (Nat.le_of_ble_eq_true rfl)⟩) ⟨preS_blind, va_recv hKc hPc (ci := 7) (q0 := 0) rfl rfl, fun U hU hW => ⟨rfl, preS_at hU hW hPc hKc hev⟩⟩ rfl rfl hl.1 rfl (lv_room (Nat.le_of_ble_eq_true rfl)) dX9_changes_19 ⟨(Nat.le_of_ble_eq_true rfl), (Nat.le_of_ble_eq_true rfl)⟩) (fun r_11 hw => ?_)
      refine lv_goto (tgt := 31) hx hb dX9_changes_22 (by decide) ?_
      have hP9 := hP.sub (ws' := [(h0, .inr (7, [.ref a0, v1, .ref p0, v3, v4, .ref t0, v6, v7, v8, v9, v10, v11, v12, v13, v14, v15, v16, v17, v18, v19, v20, v21, v22, v23, v24, v25, v26, v27])), (t0, .inl (tc, 8, .inl tf)), (a0, .inl (ac, 38, .inl nf)), (p0, .inl (pc, 7, .inr (.inl pf)))]) [0, 1, 2, 3] rfl
      have hD9 := hD.sub (ws' := [(h0, .inr (7, [.ref a0, v1, .ref p0, v3, v4, .ref t0, v6, v7, v8, v9, v10, v11, v12, v13, v14, v15, v16, v17, v18, v19, v20, v21, v22, v23, v24, v25, v26, v27])), (t0, .inl (tc, 8, .inl tf)), (a0, .inl (ac, 38, .inl nf)), (p0, .inl (pc, 7, .inr (.inl pf)))]) [0, 1, 2, 3] (by decide) rfl
      have hK9 := hK.sub (tys' := [(tc, .int), (ac, .int), (pc, .long)]) [0, 1, 2] rfl
      exact W.iret (v := r_11) hx hb hr (fun t ht hW => ⟨⟨r_11, (), rfl, trivial, tf, by rw [ht]; exact hP9, va_K.moved hW.alike hK9, hD9⟩, hS.F ht⟩) hS.2.2 dX9_changes_31

def w_m_taken : List Cond := .code yX9_taken cX9_taken 5 (some .int) :: (([.methodLink RX9 155 yX9_isScene, .instanceMethod yX9_isScene, .selects RX9 yX9_isScene yX9_isScene, .initialized RX9, .code yX9_isScene cX9_isScene 2 (some .boolean), .fieldLink RX9 9 "LampShapesModel" "now" "[I", .methodLink RX9 75 yX9_within, .static yX9_within, .code yX9_within cX9_within 3 (some .boolean), .constant RX9 74 (-1000000001), .methodLink RX9 84 yX9_finding, .instanceMethod yX9_finding, .selects RX9 yX9_finding yX9_finding, .code yX9_finding cX9_finding 2 (some .int), .fieldLink RX9 23 "LampShapesModel" "found" "[I", .fieldLink RX9 16 "LampShapesModel" "pictures" "[J", .methodLink RX9 158 yX9_bits, .static yX9_bits, .code yX9_bits cX9_bits 5 (some .int)] : List Cond) ++ wsX90)
set_option maxRecDepth 20000 in
theorem g_m_taken_m_isScene_155 : GoodIn w_m_taken (wsV RX9 155 RX9 yX9_isScene w_m_isScene) := goodIn_r _ [1, 2, 3, 4, 5, 6, 7, 8, 4, 9, 20, 21, 22, 23, 24, 25, 26, 27, 28, 29, 30, 31, 32, 33, 34, 35, 36, 37, 38, 39, 40, 41, 42, 43, 44, 45, 46, 47] rfl (by decide +kernel)
set_option maxRecDepth 20000 in
theorem g_m_taken_mf_beyond_84 : GoodIn w_m_taken (wsV RX9 84 RX9 yX9_finding w_mf_beyond) := goodIn_r _ [11, 12, 13, 4, 14, 15, 10, 20, 21, 22, 23, 24, 25, 26, 27, 28, 29, 30, 31, 32, 33, 34, 35, 36, 37, 38, 39, 40, 41, 42, 43, 44, 45, 46, 47] rfl (by decide +kernel)
set_option maxRecDepth 20000 in
theorem g_m_taken_m_within_75 : GoodIn w_m_taken (va_wsS RX9 75 yX9_within w_m_within) := goodIn_r _ [7, 8, 4, 9] rfl (by decide +kernel)
set_option maxRecDepth 20000 in
theorem g_m_taken_m_bits2_158 : GoodIn w_m_taken (va_wsS RX9 158 yX9_bits w_m_bits2) := goodIn_r _ [17, 18, 4, 19] rfl (by decide +kernel)
set_option maxHeartbeats 4000000 in
set_option maxRecDepth 100000 in
theorem m_taken (l : Launch) (dC : Nat → ClassId) (dI : Nat → Nat → Nat) (ad : Nat → Nat) (h0 : Nat) (a : Int32) (b : Int32) (a0 : Nat) (v1 : Value) (p0 : Nat) (v3 : Value) (v4 : Value) (t0 : Nat) (v6 : Value) (v7 : Value) (v8 : Value) (v9 : Value) (v10 : Value) (v11 : Value) (v12 : Value) (v13 : Value) (v14 : Value) (v15 : Value) (v16 : Value) (v17 : Value) (v18 : Value) (v19 : Value) (v20 : Value) (v21 : Value) (v22 : Value) (v23 : Value) (v24 : Value) (v25 : Value) (v26 : Value) (v27 : Value) (tc : ClassId) (tf : Nat → Int32) (ac : ClassId) (nf : Nat → Int32) (pc : ClassId) (pf : Nat → Int64) (sz : Nat) (hI : mI nf) : Met l yX9_taken w_m_taken ({ frames := 2, cells := 0, slots := 0, locals := 43 } : Room) (va_Pc [.ref h0, .int a, .int b] (preM dC dI ad [(tc, .int), (ac, .int), (pc, .long)] [(h0, .inr (7, [.ref a0, v1, .ref p0, v3, v4, .ref t0, v6, v7, v8, v9, v10, v11, v12, v13, v14, v15, v16, v17, v18, v19, v20, v21, v22, v23, v24, v25, v26, v27])), (t0, .inl (tc, 8, .inl tf)), (a0, .inl (ac, 38, .inl nf)), (p0, .inl (pc, 7, .inr (.inl pf)))] sz)) (va_Qi (fun (r : Int32) (_ : Unit) => True) (fun _ t => ∃ (tg : Nat → Int32), va_P (dC, dI) vwCl [(h0, .inr (7, [.ref a0, v1, .ref p0, v3, v4, .ref t0, v6, v7, v8, v9, v10, v11, v12, v13, v14, v15, v16, v17, v18, v19, v20, v21, v22, v23, v24, v25, v26, v27])), (t0, .inl (tc, 8, .inl tg)), (a0, .inl (ac, 38, .inl nf)), (p0, .inl (pc, 7, .inr (.inl pf)))] t.heap ∧ va_K (dC, dI) vwCl [(tc, .int), (ac, .int), (pc, .long)] t ∧ va_D (va_A [(h0, .inr (7, [.ref a0, v1, .ref p0, v3, v4, .ref t0, v6, v7, v8, v9, v10, v11, v12, v13, v14, v15, v16, v17, v18, v19, v20, v21, v22, v23, v24, v25, v26, v27])), (t0, .inl (tc, 8, .inl tf)), (a0, .inl (ac, 38, .inl nf)), (p0, .inl (pc, 7, .inr (.inl pf)))] sz) [(h0, .inr (7, [.ref a0, v1, .ref p0, v3, v4, .ref t0, v6, v7, v8, v9, v10, v11, v12, v13, v14, v15, v16, v17, v18, v19, v20, v21, v22, v23, v24, v25, v26, v27])), (t0, .inl (tc, 8, .inl tg)), (a0, .inl (ac, 38, .inl nf)), (p0, .inl (pc, 7, .inr (.inl pf)))]) (va_A [(h0, .inr (7, [.ref a0, v1, .ref p0, v3, v4, .ref t0, v6, v7, v8, v9, v10, v11, v12, v13, v14, v15, v16, v17, v18, v19, v20, v21, v22, v23, v24, v25, v26, v27])), (t0, .inl (tc, 8, .inl tf)), (a0, .inl (ac, 38, .inl nf)), (p0, .inl (pc, 7, .inr (.inl pf)))] sz)) 0 0 (va_A [(h0, .inr (7, [.ref a0, v1, .ref p0, v3, v4, .ref t0, v6, v7, v8, v9, v10, v11, v12, v13, v14, v15, v16, v17, v18, v19, v20, v21, v22, v23, v24, v25, v26, v27])), (t0, .inl (tc, 8, .inl tf)), (a0, .inl (ac, 38, .inl nf)), (p0, .inl (pc, 7, .inr (.inl pf)))] sz) := by
  refine Met.ofW (cc := cX9_taken) (maxL := 5) (ret := (some .int)) (by decide) rfl ?_
  intro p e s m args below meth c s₁ B hml hv
  obtain ⟨rfl, hsz, hP, hK, hD0, hev⟩ := hv
  have hx := B.exec
  have hb := B.bytes
  have hr := B.returns
  have hts := atoms_spec (ws := w_m_taken) B.pre
  have hown : s.vm.findClass RX9 = some m.cls := findClass_of_methodNamed B.named
  have hlocks := B.notSynchronized
  have inX9 : ∀ w ∈ wsX90, w ∈ w_m_taken := fun w h => List.mem_cons_of_mem _ (List.mem_append_right _ h)
  subst hsz
  have hD := hD0.self (sz := s.heap.size)
  generalize hAe : va_A [(h0, .inr (7, [.ref a0, v1, .ref p0, v3, v4, .ref t0, v6, v7, v8, v9, v10, v11, v12, v13, v14, v15, v16, v17, v18, v19, v20, v21, v22, v23, v24, v25, v26, v27])), (t0, .inl (tc, 8, .inl tf)), (a0, .inl (ac, 38, .inl nf)), (p0, .inl (pc, 7, .inr (.inl pf)))] s.heap.size = A at hD ⊢
  have hA : ∀ q : Nat, s.heap.size ≤ q → A q := fun q h => by rw [← hAe]; exact Or.inr h
  have hS : va_S A s.heap s.heap [] := va_S.rf
  have hP : va_P (dC, dI) vwCl [(h0, .inr (7, [.ref a0, v1, .ref p0, v3, v4, .ref t0, v6, v7, v8, v9, v10, v11, v12, v13, v14, v15, v16, v17, v18, v19, v20, v21, v22, v23, v24, v25, v26, v27])), (t0, .inl (tc, 8, .inl tf)), (a0, .inl (ac, 38, .inl nf)), (p0, .inl (pc, 7, .inr (.inl pf)))] s.heap := hP
  have hl := lv_entry ([.ref h0, .int a, .int b]) (n := 5) (Nat.le_of_ble_eq_true rfl)
  rw [lg_entry_eq]
  generalize (lg_sl ([.ref h0, .int a, .int b]) ++ List.replicate (5 - (lg_sl ([.ref h0, .int a, .int b])).length) Slot.unset).toArray = ls at hl ⊢
  have hl : lv_has ls 5 [(0, .ref h0), (1, .int a), (2, .int b)] := hl
  refine lv_aload_n hx hb dX9_taken_0 rfl (lv_at hl 0 rfl) ?_
  refine lv_iload_n hx hb dX9_taken_1 rfl (lv_at hl 1 rfl) ?_
  have hPc := hP.sub (ws' := [(h0, .inr (7, [.ref a0, v1, .ref p0, v3, v4, .ref t0, v6, v7, v8, v9, v10, v11, v12, v13, v14, v15, v16, v17, v18, v19, v20, v21, v22, v23, v24, v25, v26, v27])), (a0, .inl (ac, 38, .inl nf))]) [0, 2] rfl
  have hKc := hK.sub (tys' := [(ac, .int)]) [1] rfl
  refine vp_callSi (W.runV (As := [.int a]) (rest := []) ⟨hx, hb, hml, hown, hts⟩ (m_isScene l dC dI ad h0 a a0 v1 (.ref p0) v3 v4 (.ref t0) v6 v7 v8 v9 v10 v11 v12 v13 v14 v15 v16 v17 v18 v19 v20 v21 v22 v23 v24 v25 v26 v27 ac nf hI) (cwV 1 hts g_m_taken_m_isScene_155 rfl rfl rfl (by decide +kernel) ⟨(Nat.le_of_ble_eq_true rfl), (Nat.le_of_ble_eq_true rfl)⟩) ⟨preS_blind, va_recv hKc hPc (ci := 7) (q0 := 0) rfl rfl, fun U hU hW => ⟨rfl, preS_at hU hW hPc hKc hev⟩⟩ rfl rfl hl.1 rfl (lv_room (Nat.le_of_ble_eq_true rfl)) dX9_taken_2 ⟨(Nat.le_of_ble_eq_true rfl), (Nat.le_of_ble_eq_true rfl)⟩) (fun r_1 hw => ?_)
  have hr_1 : (r_1.toInt = 1 ∧ 0 ≤ a.toInt ∧ a.toInt < (nf 1).toInt ∧ a.toInt ≤ 6) ∨ r_1.toInt = 0 := hw
  refine lv_if_eq (tgt := 18) hx hb dX9_taken_5 (by decide) (fun c_2 => ?_) (fun c_2 => ?_)
  · skip
    have tc_2 : r_1.toInt = 0 := (fa_eq _ _).mp c_2
    refine lv_aload_n hx hb dX9_taken_18 rfl (lv_at hl 0 rfl) ?_
    refine lv_ldc hx hb hown (hts _ (List.mem_of_getElem? (i := 10) rfl)) dX9_taken_19 ?_
    have hPc := hP.sub (ws' := [(h0, .inr (7, [.ref a0, v1, .ref p0, v3, v4, .ref t0, v6, v7, v8, v9, v10, v11, v12, v13, v14, v15, v16, v17, v18, v19, v20, v21, v22, v23, v24, v25, v26, v27])), (t0, .inl (tc, 8, .inl tf))]) [0, 1] rfl
    have hKc := hK.sub (tys' := [(tc, .int)]) [0] rfl
    have hDc := hD.sub (ws' := [(h0, .inr (7, [.ref a0, v1, .ref p0, v3, v4, .ref t0, v6, v7, v8, v9, v10, v11, v12, v13, v14, v15, v16, v17, v18, v19, v20, v21, v22, v23, v24, v25, v26, v27])), (t0, .inl (tc, 8, .inl tf))]) [0, 1] (by decide) rfl
    have hFc := va_free (wc := [(h0, .inr (7, [.ref a0, v1, .ref p0, v3, v4, .ref t0, v6, v7, v8, v9, v10, v11, v12, v13, v14, v15, v16, v17, v18, v19, v20, v21, v22, v23, v24, v25, v26, v27])), (t0, .inl (tc, 8, .inl tf))]) hD hS hA [0, 1] rfl
    refine va_calli (va_runV (As := [.int (-1000000001)]) (rest := []) ⟨hx, hb, hml, hown, hts⟩ (mf_beyond l dC dI ad h0 (.ref a0) v1 (.ref p0) v3 v4 t0 v6 v7 v8 v9 v10 v11 v12 v13 v14 v15 v16 v17 v18 v19 v20 v21 v22 v23 v24 v25 v26 v27 tc tf s.heap.size ) (cwV 1 hts g_m_taken_mf_beyond_84 rfl rfl rfl (by decide +kernel) ⟨(Nat.le_of_ble_eq_true rfl), (Nat.le_of_ble_eq_true rfl)⟩) ⟨preM_blind, va_recv hKc hPc (ci := 7) (q0 := 0) rfl rfl, fun U hU hW => ⟨rfl, preM_at hU hW hPc hKc hDc hev⟩⟩ rfl rfl hl.1 rfl (lv_room (Nat.le_of_ble_eq_true rfl)) dX9_taken_21 ⟨(Nat.le_of_ble_eq_true rfl), (Nat.le_of_ble_eq_true rfl)⟩) hS (fun q _ h => hFc q h) hFc (fun r_3 u t H1 locs ht hvm hw hB hz1 hk1 hS => ?_)
    obtain ⟨tg_4, hP1, hK1, hD1⟩ := hB
    rw [ht] at hP1
    have hK1 := va_K.moved hvm.symm hK1
    obtain ⟨hP, hD⟩ := va_join (wr := [(a0, .inl (ac, 38, .inl nf)), (p0, .inl (pc, 7, .inr (.inl pf)))]) (w1 := [(h0, .inr (7, [.ref a0, v1, .ref p0, v3, v4, .ref t0, v6, v7, v8, v9, v10, v11, v12, v13, v14, v15, v16, v17, v18, v19, v20, v21, v22, v23, v24, v25, v26, v27])), (t0, .inl (tc, 8, .inl tg_4))]) hP hD [0, 1] [2, 3] rfl rfl (by decide) (by decide) hk1 hFc hP1 hD1
    generalize H1 = H at hP hS ⊢
    have hP : va_P (dC, dI) vwCl [(a0, .inl (ac, 38, .inl nf)), (p0, .inl (pc, 7, .inr (.inl pf))), (h0, .inr (7, [.ref a0, v1, .ref p0, v3, v4, .ref t0, v6, v7, v8, v9, v10, v11, v12, v13, v14, v15, v16, v17, v18, v19, v20, v21, v22, v23, v24, v25, v26, v27])), (t0, .inl (tc, 8, .inl tg_4))] H := hP
    have hD : va_D A [(a0, .inl (ac, 38, .inl nf)), (p0, .inl (pc, 7, .inr (.inl pf))), (h0, .inr (7, [.ref a0, v1, .ref p0, v3, v4, .ref t0, v6, v7, v8, v9, v10, v11, v12, v13, v14, v15, v16, v17, v18, v19, v20, v21, v22, v23, v24, v25, v26, v27])), (t0, .inl (tc, 8, .inl tg_4))] := hD
    subst hw
    have hP9 := hP.sub (ws' := [(h0, .inr (7, [.ref a0, v1, .ref p0, v3, v4, .ref t0, v6, v7, v8, v9, v10, v11, v12, v13, v14, v15, v16, v17, v18, v19, v20, v21, v22, v23, v24, v25, v26, v27])), (t0, .inl (tc, 8, .inl tg_4)), (a0, .inl (ac, 38, .inl nf)), (p0, .inl (pc, 7, .inr (.inl pf)))]) [2, 3, 0, 1] rfl
    have hD9 := hD.sub (ws' := [(h0, .inr (7, [.ref a0, v1, .ref p0, v3, v4, .ref t0, v6, v7, v8, v9, v10, v11, v12, v13, v14, v15, v16, v17, v18, v19, v20, v21, v22, v23, v24, v25, v26, v27])), (t0, .inl (tc, 8, .inl tg_4)), (a0, .inl (ac, 38, .inl nf)), (p0, .inl (pc, 7, .inr (.inl pf)))]) [2, 3, 0, 1] (by decide) rfl
    have hK9 := hK.sub (tys' := [(tc, .int), (ac, .int), (pc, .long)]) [0, 1, 2] rfl
    exact W.iret (v := ((-1000000001) : Int32)) hx hb hr (fun t ht hW => ⟨⟨((-1000000001) : Int32), (), rfl, trivial, tg_4, by rw [ht]; exact hP9, va_K.moved hW.alike hK9, hD9⟩, hS.F ht⟩) hS.2.2 dX9_taken_24
  · skip
    have tc_2 : ¬ r_1.toInt = 0 := fun h => c_2 ((fa_eq _ _).mpr h)
    have i_5 : 0 ≤ a.toInt ∧ a.toInt < (nf 1).toInt ∧ a.toInt ≤ 6 := by omega
    refine lv_iload_n hx hb dX9_taken_8 rfl (lv_at hl 2 rfl) ?_
    refine lv_iconst (v := 0) hx hb dX9_taken_9 (by decide) ?_
    refine lv_bipush (v := 64) hx hb dX9_taken_10 (by decide) ?_
    have hPc := hP.sub (ws' := []) [] rfl
    have hKc := hK.sub (tys' := []) [] rfl
    refine vp_callSi (W.runS (As := [.int b, .int 0, .int 64]) (rest := []) ⟨hx, hb, hml, hown, hts⟩ (m_within l dC dI ad b 0 64 ) (va_cwS 3 hts g_m_taken_m_within_75 rfl rfl rfl (by decide +kernel) ⟨(Nat.le_of_ble_eq_true rfl), (Nat.le_of_ble_eq_true rfl)⟩) ⟨preS_blind, fun U hU hW => ⟨rfl, preS_at hU hW hPc hKc hev⟩⟩ rfl rfl hl.1 rfl (lv_room (Nat.le_of_ble_eq_true rfl)) dX9_taken_12 ⟨(Nat.le_of_ble_eq_true rfl), (Nat.le_of_ble_eq_true rfl)⟩) (fun r_6 hw => ?_)
    have hr_6 : (r_6.toInt = 1 ∧ 0 ≤ b.toInt ∧ b.toInt ≤ 64) ∨ (r_6.toInt = 0 ∧ ¬ (0 ≤ b.toInt ∧ b.toInt ≤ 64)) := hw
    refine lv_if_ne (tgt := 25) hx hb dX9_taken_15 (by decide) (fun c_7 => ?_) (fun c_7 => ?_)
    · skip
      have tc_7 : ¬ r_6.toInt = 0 := fun h => c_7 ((fa_eq _ _).mpr h)
      have i_8 : 0 ≤ b.toInt ∧ b.toInt ≤ 64 := by omega
      refine lv_iconst (v := 0) hx hb dX9_taken_25 (by decide) ?_
      refine lv_istore_n (lv' := [(3, .int 0), (0, .ref h0), (1, .int a), (2, .int b)]) hx hb dX9_taken_26 rfl hl (by decide) rfl (fun ls hl => ?_)
      refine lv_iconst (v := 0) hx hb dX9_taken_27 (by decide) ?_
      refine lv_istore (lv' := [(4, .int 0), (3, .int 0), (0, .ref h0), (1, .int a), (2, .int b)]) hx hb dX9_taken_28 hl (by decide) rfl (fun ls hl => ?_)
      refine pp_loop (ι := Int32 × Int32) (fun ⟨v4_30, v3_30⟩ => ((nf 1).toInt - v4_30.toInt).toNat) (fun ⟨v4_30, v3_30⟩ H locs ls => (0 ≤ v4_30.toInt) ∧ va_P (dC, dI) vwCl [(h0, .inr (7, [.ref a0, v1, .ref p0, v3, v4, .ref t0, v6, v7, v8, v9, v10, v11, v12, v13, v14, v15, v16, v17, v18, v19, v20, v21, v22, v23, v24, v25, v26, v27])), (t0, .inl (tc, 8, .inl tf)), (a0, .inl (ac, 38, .inl nf)), (p0, .inl (pc, 7, .inr (.inl pf)))] H ∧ va_D A [(h0, .inr (7, [.ref a0, v1, .ref p0, v3, v4, .ref t0, v6, v7, v8, v9, v10, v11, v12, v13, v14, v15, v16, v17, v18, v19, v20, v21, v22, v23, v24, v25, v26, v27])), (t0, .inl (tc, 8, .inl tf)), (a0, .inl (ac, 38, .inl nf)), (p0, .inl (pc, 7, .inr (.inl pf)))] ∧ va_S A s.heap H locs ∧ lv_has ls 5 [(4, .int v4_30), (3, .int v3_30), (0, .ref h0), (1, .int a), (2, .int b)]) ?_ (0, 0) _ _ _ ⟨(by first | omega | decide | (simp only [fa_lt, fa_le, fa_eq, and_true, true_and, and_false, false_and, not_true_eq_false, not_false_eq_true, li_0, li_1, li_2, li_3, li_4, li_5, li_6, li_7, li_8, li_9, li_10, li_12, li_15, li_16, li_20, li_30, li_34, li_38, li_40, li_63, li_64, li_65, li_78, li_120, li_1000, li_4000, li_10000, li_11077, li_255, li_65535, li_m1, li_m2, li_m1000000001, li_m1000000002, li_m1000000003, li_m1000000004, li_m1000000005, li_m1000000006, li_m1000000007, or_true, true_or, or_false, false_or, implies_true, true_implies, false_implies] <;> omega)), hP.sub [0, 1, 2, 3] rfl, hD.sub [0, 1, 2, 3] (by decide) rfl, hS, lv_sub hl [0, 1, 2, 3, 4] rfl⟩
      intro k_9 ihk_9 u H locs ls hm hI
      obtain ⟨v4_30, v3_30⟩ := u
      obtain ⟨jk_9_0, hP, hD, hS, hl⟩ := hI
      have hmk_9 : ((nf 1).toInt - v4_30.toInt).toNat < k_9 + 1 := hm
      clear hm
      have jk_9_0 : 0 ≤ v4_30.toInt := jk_9_0
      have hl : lv_has ls 5 [(4, .int v4_30), (3, .int v3_30), (0, .ref h0), (1, .int a), (2, .int b)] := hl
      have hP : va_P (dC, dI) vwCl [(h0, .inr (7, [.ref a0, v1, .ref p0, v3, v4, .ref t0, v6, v7, v8, v9, v10, v11, v12, v13, v14, v15, v16, v17, v18, v19, v20, v21, v22, v23, v24, v25, v26, v27])), (t0, .inl (tc, 8, .inl tf)), (a0, .inl (ac, 38, .inl nf)), (p0, .inl (pc, 7, .inr (.inl pf)))] H := hP
      have hD : va_D A [(h0, .inr (7, [.ref a0, v1, .ref p0, v3, v4, .ref t0, v6, v7, v8, v9, v10, v11, v12, v13, v14, v15, v16, v17, v18, v19, v20, v21, v22, v23, v24, v25, v26, v27])), (t0, .inl (tc, 8, .inl tf)), (a0, .inl (ac, 38, .inl nf)), (p0, .inl (pc, 7, .inr (.inl pf)))] := hD
      refine lv_iload hx hb dX9_taken_30 (lv_at hl 0 rfl) ?_
      refine lv_aload_n hx hb dX9_taken_32 rfl (lv_at hl 2 rfl) ?_
      refine va_get (D := (dC, dI)) (ci := 7) (v := .ref a0) (C := RX9) (T := TX9) (N := 28) hx hb hts inX9 hown hK hP 0 rfl rfl 0 (by decide) (hts _ (List.mem_of_getElem? (i := 6) rfl)) (fun _ h9 => h9) rfl dX9_taken_33 ?_
      refine lv_iconst (v := 1) hx hb dX9_taken_36 (by decide) ?_
      refine va_iald hx hb hK hP 2 1 rfl rfl (vp_in_nI (n := 1) (by decide) (by decide)) dX9_taken_37 ?_
      refine pp_ti (y := nf 1) rfl ?_
      refine lv_topi (fun n_10 en_10 => ?_)
      have tn_10 : n_10.toInt = (nf 1).toInt ∧ 0 ≤ n_10.toInt ∧ n_10.toInt ≤ 7 := mI_r1 hI en_10
      clear en_10
      have rc_11_x := pp_rng v4_30
      have rc_11_y := pp_rng n_10
      refine lv_icmp_ge (tgt := 85) hx hb dX9_taken_38 (by decide) (fun c_11 => ?_) (fun c_11 => ?_)
      · skip
        have tc_11 : n_10.toInt ≤ v4_30.toInt := (fa_le _ _).mp c_11
        refine lv_iload_n hx hb dX9_taken_85 rfl (lv_at hl 1 rfl) ?_
        have hP9 := hP.sub (ws' := [(h0, .inr (7, [.ref a0, v1, .ref p0, v3, v4, .ref t0, v6, v7, v8, v9, v10, v11, v12, v13, v14, v15, v16, v17, v18, v19, v20, v21, v22, v23, v24, v25, v26, v27])), (t0, .inl (tc, 8, .inl tf)), (a0, .inl (ac, 38, .inl nf)), (p0, .inl (pc, 7, .inr (.inl pf)))]) [0, 1, 2, 3] rfl
        have hD9 := hD.sub (ws' := [(h0, .inr (7, [.ref a0, v1, .ref p0, v3, v4, .ref t0, v6, v7, v8, v9, v10, v11, v12, v13, v14, v15, v16, v17, v18, v19, v20, v21, v22, v23, v24, v25, v26, v27])), (t0, .inl (tc, 8, .inl tf)), (a0, .inl (ac, 38, .inl nf)), (p0, .inl (pc, 7, .inr (.inl pf)))]) [0, 1, 2, 3] (by decide) rfl
        have hK9 := hK.sub (tys' := [(tc, .int), (ac, .int), (pc, .long)]) [0, 1, 2] rfl
        exact W.iret (v := v3_30) hx hb hr (fun t ht hW => ⟨⟨v3_30, (), rfl, trivial, tf, by rw [ht]; exact hP9, va_K.moved hW.alike hK9, hD9⟩, hS.F ht⟩) hS.2.2 dX9_taken_86
      · skip
        have tc_11 : ¬ n_10.toInt ≤ v4_30.toInt := fun h => c_11 ((fa_le _ _).mpr h)
        refine lv_iload_n hx hb dX9_taken_41 rfl (lv_at hl 1 rfl) ?_
        refine lv_iload hx hb dX9_taken_42 (lv_at hl 0 rfl) ?_
        refine lv_iload_n hx hb dX9_taken_44 rfl (lv_at hl 3 rfl) ?_
        have rc_12_x := pp_rng v4_30
        have rc_12_y := pp_rng a
        refine lv_icmp_eq (tgt := 76) hx hb dX9_taken_45 (by decide) (fun c_12 => ?_) (fun c_12 => ?_)
        · skip
          have tc_12 : v4_30.toInt = a.toInt := (fa_eq _ _).mp c_12
          refine lv_iconst (v := 0) hx hb dX9_taken_76 (by decide) ?_
          refine lv_ior hx hb dX9_taken_77 ?_
          refine lv_topi (fun n_13 en_13 => ?_)
          clear en_13
          refine lv_istore_n (lv' := [(3, .int n_13), (4, .int v4_30), (0, .ref h0), (1, .int a), (2, .int b)]) hx hb dX9_taken_78 rfl hl (by decide) rfl (fun ls hl => ?_)
          obtain ⟨n_14, en_14⟩ : ∃ y : Int32, y = v4_30 + 1 := ⟨_, rfl⟩
          have tn_14 : n_14.toInt = v4_30.toInt + 1 := pp_add en_14 rfl rfl (by omega) (by omega)
          refine lv_iinc (v := n_14) (lv' := [(4, .int n_14), (3, .int n_13), (0, .ref h0), (1, .int a), (2, .int b)]) hx hb dX9_taken_79 hl (k := 1) rfl (by rw [en_14]; rfl) (by decide) rfl (fun ls hl => ?_)
          clear en_14
          refine lv_goto (tgt := 30) hx hb dX9_taken_82 (by decide) ?_
          exact ihk_9 (n_14, n_13) _ _ _ (by show ((nf 1).toInt - n_14.toInt).toNat < k_9; omega) ⟨(by first | omega | decide | (simp only [fa_lt, fa_le, fa_eq, and_true, true_and, and_false, false_and, not_true_eq_false, not_false_eq_true, li_0, li_1, li_2, li_3, li_4, li_5, li_6, li_7, li_8, li_9, li_10, li_12, li_15, li_16, li_20, li_30, li_34, li_38, li_40, li_63, li_64, li_65, li_78, li_120, li_1000, li_4000, li_10000, li_11077, li_255, li_65535, li_m1, li_m2, li_m1000000001, li_m1000000002, li_m1000000003, li_m1000000004, li_m1000000005, li_m1000000006, li_m1000000007, or_true, true_or, or_false, false_or, implies_true, true_implies, false_implies] <;> omega)), hP.sub [0, 1, 2, 3] rfl, hD.sub [0, 1, 2, 3] (by decide) rfl, hS, lv_sub hl [0, 1, 2, 3, 4] rfl⟩
        · skip
          have tc_12 : ¬ v4_30.toInt = a.toInt := fun h => c_12 ((fa_eq _ _).mpr h)
          refine lv_aload_n hx hb dX9_taken_48 rfl (lv_at hl 2 rfl) ?_
          refine va_get (D := (dC, dI)) (ci := 7) (v := .ref p0) (C := RX9) (T := TX9) (N := 28) hx hb hts inX9 hown hK hP 0 rfl rfl 2 (by decide) (hts _ (List.mem_of_getElem? (i := 16) rfl)) (fun _ h9 => h9) rfl dX9_taken_49 ?_
          refine lv_iload hx hb dX9_taken_52 (lv_at hl 0 rfl) ?_
          refine va_lald hx hb hK hP 3 2 rfl rfl (vp_in_iff.mpr ⟨by omega, by omega⟩) dX9_taken_54 ?_
          refine lv_topl (fun n_15 en_15 => ?_)
          clear en_15
          refine lv_aload_n hx hb dX9_taken_55 rfl (lv_at hl 2 rfl) ?_
          refine va_get (D := (dC, dI)) (ci := 7) (v := .ref p0) (C := RX9) (T := TX9) (N := 28) hx hb hts inX9 hown hK hP 0 rfl rfl 2 (by decide) (hts _ (List.mem_of_getElem? (i := 16) rfl)) (fun _ h9 => h9) rfl dX9_taken_56 ?_
          refine lv_iload_n hx hb dX9_taken_59 rfl (lv_at hl 3 rfl) ?_
          refine va_lald hx hb hK hP 3 2 rfl rfl (vp_in_iff.mpr ⟨by omega, by omega⟩) dX9_taken_60 ?_
          refine lv_topl (fun n_16 en_16 => ?_)
          clear en_16
          refine lv_lxor hx hb dX9_taken_61 ?_
          refine lv_topl (fun n_17 en_17 => ?_)
          clear en_17
          have hPc := hP.sub (ws' := []) [] rfl
          have hKc := hK.sub (tys' := []) [] rfl
          refine vp_callSi (W.runS (As := [.long n_17]) (rest := [.int v3_30]) ⟨hx, hb, hml, hown, hts⟩ (m_bits2 l dC dI ad n_17 ) (va_cwS 1 hts g_m_taken_m_bits2_158 rfl rfl rfl (by decide +kernel) ⟨(Nat.le_of_ble_eq_true rfl), (Nat.le_of_ble_eq_true rfl)⟩) ⟨preS_blind, fun U hU hW => ⟨rfl, preS_at hU hW hPc hKc hev⟩⟩ rfl rfl hl.1 rfl (lv_room (Nat.le_of_ble_eq_true rfl)) dX9_taken_62 ⟨(Nat.le_of_ble_eq_true rfl), (Nat.le_of_ble_eq_true rfl)⟩) (fun r_18 hw => ?_)
          have hr_18 : (0 ≤ r_18.toInt ∧ r_18.toInt ≤ 64) ∧ (n_17.toBitVec.toNat < 512 → r_18.toInt = (pop9 n_17.toBitVec.toNat : Int)) := hw
          refine lv_iload_n hx hb dX9_taken_65 rfl (lv_at hl 4 rfl) ?_
          have rc_19_x := pp_rng r_18
          have rc_19_y := pp_rng b
          refine lv_icmp_gt (tgt := 76) hx hb dX9_taken_66 (by decide) (fun c_19 => ?_) (fun c_19 => ?_)
          · skip
            have tc_19 : b.toInt < r_18.toInt := (fa_lt _ _).mp c_19
            refine lv_iconst (v := 0) hx hb dX9_taken_76 (by decide) ?_
            refine lv_ior hx hb dX9_taken_77 ?_
            refine lv_topi (fun n_20 en_20 => ?_)
            clear en_20
            refine lv_istore_n (lv' := [(3, .int n_20), (4, .int v4_30), (0, .ref h0), (1, .int a), (2, .int b)]) hx hb dX9_taken_78 rfl hl (by decide) rfl (fun ls hl => ?_)
            obtain ⟨n_21, en_21⟩ : ∃ y : Int32, y = v4_30 + 1 := ⟨_, rfl⟩
            have tn_21 : n_21.toInt = v4_30.toInt + 1 := pp_add en_21 rfl rfl (by omega) (by omega)
            refine lv_iinc (v := n_21) (lv' := [(4, .int n_21), (3, .int n_20), (0, .ref h0), (1, .int a), (2, .int b)]) hx hb dX9_taken_79 hl (k := 1) rfl (by rw [en_21]; rfl) (by decide) rfl (fun ls hl => ?_)
            clear en_21
            refine lv_goto (tgt := 30) hx hb dX9_taken_82 (by decide) ?_
            exact ihk_9 (n_21, n_20) _ _ _ (by show ((nf 1).toInt - n_21.toInt).toNat < k_9; omega) ⟨(by first | omega | decide | (simp only [fa_lt, fa_le, fa_eq, and_true, true_and, and_false, false_and, not_true_eq_false, not_false_eq_true, li_0, li_1, li_2, li_3, li_4, li_5, li_6, li_7, li_8, li_9, li_10, li_12, li_15, li_16, li_20, li_30, li_34, li_38, li_40, li_63, li_64, li_65, li_78, li_120, li_1000, li_4000, li_10000, li_11077, li_255, li_65535, li_m1, li_m2, li_m1000000001, li_m1000000002, li_m1000000003, li_m1000000004, li_m1000000005, li_m1000000006, li_m1000000007, or_true, true_or, or_false, false_or, implies_true, true_implies, false_implies] <;> omega)), hP.sub [0, 1, 2, 3] rfl, hD.sub [0, 1, 2, 3] (by decide) rfl, hS, lv_sub hl [0, 1, 2, 3, 4] rfl⟩
          · skip
            have tc_19 : ¬ b.toInt < r_18.toInt := fun h => c_19 ((fa_lt _ _).mpr h)
            refine lv_iconst (v := 1) hx hb dX9_taken_69 (by decide) ?_
            refine lv_iload hx hb dX9_taken_70 (lv_at hl 0 rfl) ?_
            refine lv_ishl hx hb dX9_taken_72 ?_
            refine lv_topi (fun n_22 en_22 => ?_)
            clear en_22
            refine lv_goto (tgt := 77) hx hb dX9_taken_73 (by decide) ?_
            refine lv_ior hx hb dX9_taken_77 ?_
            refine lv_topi (fun n_23 en_23 => ?_)
            clear en_23
            refine lv_istore_n (lv' := [(3, .int n_23), (4, .int v4_30), (0, .ref h0), (1, .int a), (2, .int b)]) hx hb dX9_taken_78 rfl hl (by decide) rfl (fun ls hl => ?_)
            obtain ⟨n_24, en_24⟩ : ∃ y : Int32, y = v4_30 + 1 := ⟨_, rfl⟩
            have tn_24 : n_24.toInt = v4_30.toInt + 1 := pp_add en_24 rfl rfl (by omega) (by omega)
            refine lv_iinc (v := n_24) (lv' := [(4, .int n_24), (3, .int n_23), (0, .ref h0), (1, .int a), (2, .int b)]) hx hb dX9_taken_79 hl (k := 1) rfl (by rw [en_24]; rfl) (by decide) rfl (fun ls hl => ?_)
            clear en_24
            refine lv_goto (tgt := 30) hx hb dX9_taken_82 (by decide) ?_
            exact ihk_9 (n_24, n_23) _ _ _ (by show ((nf 1).toInt - n_24.toInt).toNat < k_9; omega) ⟨(by first | omega | decide | (simp only [fa_lt, fa_le, fa_eq, and_true, true_and, and_false, false_and, not_true_eq_false, not_false_eq_true, li_0, li_1, li_2, li_3, li_4, li_5, li_6, li_7, li_8, li_9, li_10, li_12, li_15, li_16, li_20, li_30, li_34, li_38, li_40, li_63, li_64, li_65, li_78, li_120, li_1000, li_4000, li_10000, li_11077, li_255, li_65535, li_m1, li_m2, li_m1000000001, li_m1000000002, li_m1000000003, li_m1000000004, li_m1000000005, li_m1000000006, li_m1000000007, or_true, true_or, or_false, false_or, implies_true, true_implies, false_implies] <;> omega)), hP.sub [0, 1, 2, 3] rfl, hD.sub [0, 1, 2, 3] (by decide) rfl, hS, lv_sub hl [0, 1, 2, 3, 4] rfl⟩
    · skip
      have tc_7 : r_6.toInt = 0 := (fa_eq _ _).mp c_7
      refine lv_aload_n hx hb dX9_taken_18 rfl (lv_at hl 0 rfl) ?_
      refine lv_ldc hx hb hown (hts _ (List.mem_of_getElem? (i := 10) rfl)) dX9_taken_19 ?_
      have hPc := hP.sub (ws' := [(h0, .inr (7, [.ref a0, v1, .ref p0, v3, v4, .ref t0, v6, v7, v8, v9, v10, v11, v12, v13, v14, v15, v16, v17, v18, v19, v20, v21, v22, v23, v24, v25, v26, v27])), (t0, .inl (tc, 8, .inl tf))]) [0, 1] rfl
      have hKc := hK.sub (tys' := [(tc, .int)]) [0] rfl
      have hDc := hD.sub (ws' := [(h0, .inr (7, [.ref a0, v1, .ref p0, v3, v4, .ref t0, v6, v7, v8, v9, v10, v11, v12, v13, v14, v15, v16, v17, v18, v19, v20, v21, v22, v23, v24, v25, v26, v27])), (t0, .inl (tc, 8, .inl tf))]) [0, 1] (by decide) rfl
      have hFc := va_free (wc := [(h0, .inr (7, [.ref a0, v1, .ref p0, v3, v4, .ref t0, v6, v7, v8, v9, v10, v11, v12, v13, v14, v15, v16, v17, v18, v19, v20, v21, v22, v23, v24, v25, v26, v27])), (t0, .inl (tc, 8, .inl tf))]) hD hS hA [0, 1] rfl
      refine va_calli (va_runV (As := [.int (-1000000001)]) (rest := []) ⟨hx, hb, hml, hown, hts⟩ (mf_beyond l dC dI ad h0 (.ref a0) v1 (.ref p0) v3 v4 t0 v6 v7 v8 v9 v10 v11 v12 v13 v14 v15 v16 v17 v18 v19 v20 v21 v22 v23 v24 v25 v26 v27 tc tf s.heap.size ) (cwV 1 hts g_m_taken_mf_beyond_84 rfl rfl rfl (by decide +kernel) ⟨(Nat.le_of_ble_eq_true rfl), (Nat.le_of_ble_eq_true rfl)⟩) ⟨preM_blind, va_recv hKc hPc (ci := 7) (q0 := 0) rfl rfl, fun U hU hW => ⟨rfl, preM_at hU hW hPc hKc hDc hev⟩⟩ rfl rfl hl.1 rfl (lv_room (Nat.le_of_ble_eq_true rfl)) dX9_taken_21 ⟨(Nat.le_of_ble_eq_true rfl), (Nat.le_of_ble_eq_true rfl)⟩) hS (fun q _ h => hFc q h) hFc (fun r_25 u t H1 locs ht hvm hw hB hz1 hk1 hS => ?_)
      obtain ⟨tg_26, hP1, hK1, hD1⟩ := hB
      rw [ht] at hP1
      have hK1 := va_K.moved hvm.symm hK1
      obtain ⟨hP, hD⟩ := va_join (wr := [(a0, .inl (ac, 38, .inl nf)), (p0, .inl (pc, 7, .inr (.inl pf)))]) (w1 := [(h0, .inr (7, [.ref a0, v1, .ref p0, v3, v4, .ref t0, v6, v7, v8, v9, v10, v11, v12, v13, v14, v15, v16, v17, v18, v19, v20, v21, v22, v23, v24, v25, v26, v27])), (t0, .inl (tc, 8, .inl tg_26))]) hP hD [0, 1] [2, 3] rfl rfl (by decide) (by decide) hk1 hFc hP1 hD1
      generalize H1 = H at hP hS ⊢
      have hP : va_P (dC, dI) vwCl [(a0, .inl (ac, 38, .inl nf)), (p0, .inl (pc, 7, .inr (.inl pf))), (h0, .inr (7, [.ref a0, v1, .ref p0, v3, v4, .ref t0, v6, v7, v8, v9, v10, v11, v12, v13, v14, v15, v16, v17, v18, v19, v20, v21, v22, v23, v24, v25, v26, v27])), (t0, .inl (tc, 8, .inl tg_26))] H := hP
      have hD : va_D A [(a0, .inl (ac, 38, .inl nf)), (p0, .inl (pc, 7, .inr (.inl pf))), (h0, .inr (7, [.ref a0, v1, .ref p0, v3, v4, .ref t0, v6, v7, v8, v9, v10, v11, v12, v13, v14, v15, v16, v17, v18, v19, v20, v21, v22, v23, v24, v25, v26, v27])), (t0, .inl (tc, 8, .inl tg_26))] := hD
      subst hw
      have hP9 := hP.sub (ws' := [(h0, .inr (7, [.ref a0, v1, .ref p0, v3, v4, .ref t0, v6, v7, v8, v9, v10, v11, v12, v13, v14, v15, v16, v17, v18, v19, v20, v21, v22, v23, v24, v25, v26, v27])), (t0, .inl (tc, 8, .inl tg_26)), (a0, .inl (ac, 38, .inl nf)), (p0, .inl (pc, 7, .inr (.inl pf)))]) [2, 3, 0, 1] rfl
      have hD9 := hD.sub (ws' := [(h0, .inr (7, [.ref a0, v1, .ref p0, v3, v4, .ref t0, v6, v7, v8, v9, v10, v11, v12, v13, v14, v15, v16, v17, v18, v19, v20, v21, v22, v23, v24, v25, v26, v27])), (t0, .inl (tc, 8, .inl tg_26)), (a0, .inl (ac, 38, .inl nf)), (p0, .inl (pc, 7, .inr (.inl pf)))]) [2, 3, 0, 1] (by decide) rfl
      have hK9 := hK.sub (tys' := [(tc, .int), (ac, .int), (pc, .long)]) [0, 1, 2] rfl
      exact W.iret (v := ((-1000000001) : Int32)) hx hb hr (fun t ht hW => ⟨⟨((-1000000001) : Int32), (), rfl, trivial, tg_26, by rw [ht]; exact hP9, va_K.moved hW.alike hK9, hD9⟩, hS.F ht⟩) hS.2.2 dX9_taken_24

def w_m_seen : List Cond := .code yX9_seen cX9_seen 5 (some .int) :: (([.fieldLink RX9 9 "LampShapesModel" "now" "[I", .constant RX9 150 (-1000000004), .methodLink RX9 84 yX9_finding, .instanceMethod yX9_finding, .selects RX9 yX9_finding yX9_finding, .initialized RX9, .code yX9_finding cX9_finding 2 (some .int), .fieldLink RX9 23 "LampShapesModel" "found" "[I", .constant RX9 74 (-1000000001), .fieldLink RX9 16 "LampShapesModel" "pictures" "[J", .methodLink RX9 146 yX9_dark, .instanceMethod yX9_dark, .selects RX9 yX9_dark yX9_dark, .code yX9_dark cX9_dark 1 (some .long), .methodLink RX9 141 yX9_darkBut, .instanceMethod yX9_darkBut, .selects RX9 yX9_darkBut yX9_darkBut, .code yX9_darkBut cX9_darkBut 5 (some .long), .methodLink RX9 137 yX9_shadowIn, .instanceMethod yX9_shadowIn, .selects RX9 yX9_shadowIn yX9_shadowIn, .code yX9_shadowIn cX9_shadowIn 3 (some .long), .methodLink RX9 99 yX9_shapeIs, .instanceMethod yX9_shapeIs, .selects RX9 yX9_shapeIs yX9_shapeIs, .code yX9_shapeIs cX9_shapeIs 3 (some .int), .methodLink RX9 129 yX9_shadowOf, .instanceMethod yX9_shadowOf, .selects RX9 yX9_shadowOf yX9_shadowOf, .code yX9_shadowOf cX9_shadowOf 11 (some .long), .methodLink RX9 122 yX9_throwsOf, .static yX9_throwsOf, .code yX9_throwsOf cX9_throwsOf 8 (some .int), .methodLink RX9 112 yX9_mirrored, .static yX9_mirrored, .code yX9_mirrored cX9_mirrored 5 (some .int), .methodLink RX9 109 yX9_has, .static yX9_has, .code yX9_has cX9_has 3 (some .boolean), .methodLink RX9 75 yX9_within, .static yX9_within, .code yX9_within cX9_within 3 (some .boolean), .methodLink RX9 114 yX9_turned, .static yX9_turned, .code yX9_turned cX9_turned 7 (some .int), .methodLink RX9 119 yX9_isBetween, .static yX9_isBetween, .code yX9_isBetween cX9_isBetween 6 (some .boolean), .methodLink RX9 116 yX9_isInner, .static yX9_isInner, .code yX9_isInner cX9_isInner 3 (some .boolean), .methodLink RX9 158 yX9_bits, .static yX9_bits, .code yX9_bits cX9_bits 5 (some .int), .methodLink RX9 171 Lib.Math.min.name, .static Lib.Math.min.name, .initialized "java/lang/Math", .code Lib.Math.min.name Lib.Math.min.code 2 (some .int)] : List Cond) ++ wsX90)
set_option maxRecDepth 20000 in
theorem g_m_seen_mf_none_84 : GoodIn w_m_seen (wsV RX9 84 RX9 yX9_finding w_mf_none) := goodIn_r _ [3, 4, 5, 6, 7, 8, 9, 59, 60, 61, 62, 63, 64, 65, 66, 67, 68, 69, 70, 71, 72, 73, 74, 75, 76, 77, 78, 79, 80, 81, 82, 83, 84, 85, 86] rfl (by decide +kernel)
set_option maxRecDepth 20000 in
theorem g_m_seen_m_dark_146 : GoodIn w_m_seen (wsV RX9 146 RX9 yX9_dark w_m_dark) := goodIn_r _ [11, 12, 13, 6, 14, 15, 16, 17, 6, 18, 19, 20, 21, 22, 1, 23, 24, 25, 26, 27, 28, 29, 30, 31, 32, 33, 34, 35, 36, 37, 38, 39, 40, 41, 42, 43, 44, 45, 46, 47, 48, 49, 50, 51, 59, 60, 61, 62, 63, 64, 65, 66, 67, 68, 69, 70, 71, 72, 73, 74, 75, 76, 77, 78, 79, 80, 81, 82, 83, 84, 85, 86] rfl (by decide +kernel)
set_option maxRecDepth 20000 in
theorem g_m_seen_m_bits2_158 : GoodIn w_m_seen (va_wsS RX9 158 yX9_bits w_m_bits2) := goodIn_r _ [52, 53, 6, 54] rfl (by decide +kernel)
set_option maxHeartbeats 4000000 in
set_option maxRecDepth 100000 in
theorem m_seen (l : Launch) (dC : Nat → ClassId) (dI : Nat → Nat → Nat) (ad : Nat → Nat) (h0 : Nat) (a0 : Nat) (v1 : Value) (p0 : Nat) (v3 : Value) (v4 : Value) (t0 : Nat) (v6 : Value) (v7 : Value) (v8 : Value) (v9 : Value) (v10 : Value) (v11 : Value) (v12 : Value) (v13 : Value) (v14 : Value) (v15 : Value) (v16 : Value) (v17 : Value) (v18 : Value) (v19 : Value) (v20 : Value) (v21 : Value) (v22 : Value) (v23 : Value) (v24 : Value) (v25 : Value) (v26 : Value) (v27 : Value) (tc : ClassId) (tf : Nat → Int32) (ac : ClassId) (nf : Nat → Int32) (pc : ClassId) (pf : Nat → Int64) (sz : Nat) (hI : mI nf) : Met l yX9_seen w_m_seen ({ frames := 8, cells := 0, slots := 0, locals := 193 } : Room) (va_Pc [.ref h0] (preM dC dI ad [(tc, .int), (ac, .int), (pc, .long)] [(h0, .inr (7, [.ref a0, v1, .ref p0, v3, v4, .ref t0, v6, v7, v8, v9, v10, v11, v12, v13, v14, v15, v16, v17, v18, v19, v20, v21, v22, v23, v24, v25, v26, v27])), (t0, .inl (tc, 8, .inl tf)), (a0, .inl (ac, 38, .inl nf)), (p0, .inl (pc, 7, .inr (.inl pf)))] sz)) (va_Qi (fun (r : Int32) (_ : Unit) => True) (fun _ t => ∃ (tg : Nat → Int32), va_P (dC, dI) vwCl [(h0, .inr (7, [.ref a0, v1, .ref p0, v3, v4, .ref t0, v6, v7, v8, v9, v10, v11, v12, v13, v14, v15, v16, v17, v18, v19, v20, v21, v22, v23, v24, v25, v26, v27])), (t0, .inl (tc, 8, .inl tg)), (a0, .inl (ac, 38, .inl nf)), (p0, .inl (pc, 7, .inr (.inl pf)))] t.heap ∧ va_K (dC, dI) vwCl [(tc, .int), (ac, .int), (pc, .long)] t ∧ va_D (va_A [(h0, .inr (7, [.ref a0, v1, .ref p0, v3, v4, .ref t0, v6, v7, v8, v9, v10, v11, v12, v13, v14, v15, v16, v17, v18, v19, v20, v21, v22, v23, v24, v25, v26, v27])), (t0, .inl (tc, 8, .inl tf)), (a0, .inl (ac, 38, .inl nf)), (p0, .inl (pc, 7, .inr (.inl pf)))] sz) [(h0, .inr (7, [.ref a0, v1, .ref p0, v3, v4, .ref t0, v6, v7, v8, v9, v10, v11, v12, v13, v14, v15, v16, v17, v18, v19, v20, v21, v22, v23, v24, v25, v26, v27])), (t0, .inl (tc, 8, .inl tg)), (a0, .inl (ac, 38, .inl nf)), (p0, .inl (pc, 7, .inr (.inl pf)))]) (va_A [(h0, .inr (7, [.ref a0, v1, .ref p0, v3, v4, .ref t0, v6, v7, v8, v9, v10, v11, v12, v13, v14, v15, v16, v17, v18, v19, v20, v21, v22, v23, v24, v25, v26, v27])), (t0, .inl (tc, 8, .inl tf)), (a0, .inl (ac, 38, .inl nf)), (p0, .inl (pc, 7, .inr (.inl pf)))] sz)) 0 0 (va_A [(h0, .inr (7, [.ref a0, v1, .ref p0, v3, v4, .ref t0, v6, v7, v8, v9, v10, v11, v12, v13, v14, v15, v16, v17, v18, v19, v20, v21, v22, v23, v24, v25, v26, v27])), (t0, .inl (tc, 8, .inl tf)), (a0, .inl (ac, 38, .inl nf)), (p0, .inl (pc, 7, .inr (.inl pf)))] sz) := by
  refine Met.ofW (cc := cX9_seen) (maxL := 5) (ret := (some .int)) (by decide) rfl ?_
  intro p e s m args below meth c s₁ B hml hv
  obtain ⟨rfl, hsz, hP, hK, hD0, hev⟩ := hv
  have hx := B.exec
  have hb := B.bytes
  have hr := B.returns
  have hts := atoms_spec (ws := w_m_seen) B.pre
  have hown : s.vm.findClass RX9 = some m.cls := findClass_of_methodNamed B.named
  have hlocks := B.notSynchronized
  have inX9 : ∀ w ∈ wsX90, w ∈ w_m_seen := fun w h => List.mem_cons_of_mem _ (List.mem_append_right _ h)
  subst hsz
  have hD := hD0.self (sz := s.heap.size)
  generalize hAe : va_A [(h0, .inr (7, [.ref a0, v1, .ref p0, v3, v4, .ref t0, v6, v7, v8, v9, v10, v11, v12, v13, v14, v15, v16, v17, v18, v19, v20, v21, v22, v23, v24, v25, v26, v27])), (t0, .inl (tc, 8, .inl tf)), (a0, .inl (ac, 38, .inl nf)), (p0, .inl (pc, 7, .inr (.inl pf)))] s.heap.size = A at hD ⊢
  have hA : ∀ q : Nat, s.heap.size ≤ q → A q := fun q h => by rw [← hAe]; exact Or.inr h
  have hS : va_S A s.heap s.heap [] := va_S.rf
  have hP : va_P (dC, dI) vwCl [(h0, .inr (7, [.ref a0, v1, .ref p0, v3, v4, .ref t0, v6, v7, v8, v9, v10, v11, v12, v13, v14, v15, v16, v17, v18, v19, v20, v21, v22, v23, v24, v25, v26, v27])), (t0, .inl (tc, 8, .inl tf)), (a0, .inl (ac, 38, .inl nf)), (p0, .inl (pc, 7, .inr (.inl pf)))] s.heap := hP
  have hl := lv_entry ([.ref h0]) (n := 5) (Nat.le_of_ble_eq_true rfl)
  rw [lg_entry_eq]
  generalize (lg_sl ([.ref h0]) ++ List.replicate (5 - (lg_sl ([.ref h0])).length) Slot.unset).toArray = ls at hl ⊢
  have hl : lv_has ls 5 [(0, .ref h0)] := hl
  refine lv_iconst (v := (-1)) hx hb dX9_seen_0 (by decide) ?_
  refine lv_istore_n (lv' := [(1, .int (-1)), (0, .ref h0)]) hx hb dX9_seen_1 rfl hl (by decide) rfl (fun ls hl => ?_)
  refine lv_bipush (v := 65) hx hb dX9_seen_2 (by decide) ?_
  refine lv_istore_n (lv' := [(2, .int 65), (1, .int (-1)), (0, .ref h0)]) hx hb dX9_seen_4 rfl hl (by decide) rfl (fun ls hl => ?_)
  refine lv_iconst (v := 0) hx hb dX9_seen_5 (by decide) ?_
  refine lv_istore_n (lv' := [(3, .int 0), (2, .int 65), (1, .int (-1)), (0, .ref h0)]) hx hb dX9_seen_6 rfl hl (by decide) rfl (fun ls hl => ?_)
  refine pp_loop (ι := Int32 × Int32 × Int32) (fun ⟨v3_7, v2_7, v1_7⟩ => ((nf 1).toInt - v3_7.toInt).toNat) (fun ⟨v3_7, v2_7, v1_7⟩ H locs ls => (0 ≤ v3_7.toInt) ∧ va_P (dC, dI) vwCl [(h0, .inr (7, [.ref a0, v1, .ref p0, v3, v4, .ref t0, v6, v7, v8, v9, v10, v11, v12, v13, v14, v15, v16, v17, v18, v19, v20, v21, v22, v23, v24, v25, v26, v27])), (t0, .inl (tc, 8, .inl tf)), (a0, .inl (ac, 38, .inl nf)), (p0, .inl (pc, 7, .inr (.inl pf)))] H ∧ va_D A [(h0, .inr (7, [.ref a0, v1, .ref p0, v3, v4, .ref t0, v6, v7, v8, v9, v10, v11, v12, v13, v14, v15, v16, v17, v18, v19, v20, v21, v22, v23, v24, v25, v26, v27])), (t0, .inl (tc, 8, .inl tf)), (a0, .inl (ac, 38, .inl nf)), (p0, .inl (pc, 7, .inr (.inl pf)))] ∧ va_S A s.heap H locs ∧ lv_has ls 5 [(3, .int v3_7), (2, .int v2_7), (1, .int v1_7), (0, .ref h0)]) ?_ (0, 65, (-1)) _ _ _ ⟨(by first | omega | decide | (simp only [fa_lt, fa_le, fa_eq, and_true, true_and, and_false, false_and, not_true_eq_false, not_false_eq_true, li_0, li_1, li_2, li_3, li_4, li_5, li_6, li_7, li_8, li_9, li_10, li_12, li_15, li_16, li_20, li_30, li_34, li_38, li_40, li_63, li_64, li_65, li_78, li_120, li_1000, li_4000, li_10000, li_11077, li_255, li_65535, li_m1, li_m2, li_m1000000001, li_m1000000002, li_m1000000003, li_m1000000004, li_m1000000005, li_m1000000006, li_m1000000007, or_true, true_or, or_false, false_or, implies_true, true_implies, false_implies] <;> omega)), hP.sub [0, 1, 2, 3] rfl, hD.sub [0, 1, 2, 3] (by decide) rfl, hS, lv_sub hl [0, 1, 2, 3] rfl⟩
  intro k_1 ihk_1 u H locs ls hm hI
  obtain ⟨v3_7, v2_7, v1_7⟩ := u
  obtain ⟨jk_1_0, hP, hD, hS, hl⟩ := hI
  have hmk_1 : ((nf 1).toInt - v3_7.toInt).toNat < k_1 + 1 := hm
  clear hm
  have jk_1_0 : 0 ≤ v3_7.toInt := jk_1_0
  have hl : lv_has ls 5 [(3, .int v3_7), (2, .int v2_7), (1, .int v1_7), (0, .ref h0)] := hl
  have hP : va_P (dC, dI) vwCl [(h0, .inr (7, [.ref a0, v1, .ref p0, v3, v4, .ref t0, v6, v7, v8, v9, v10, v11, v12, v13, v14, v15, v16, v17, v18, v19, v20, v21, v22, v23, v24, v25, v26, v27])), (t0, .inl (tc, 8, .inl tf)), (a0, .inl (ac, 38, .inl nf)), (p0, .inl (pc, 7, .inr (.inl pf)))] H := hP
  have hD : va_D A [(h0, .inr (7, [.ref a0, v1, .ref p0, v3, v4, .ref t0, v6, v7, v8, v9, v10, v11, v12, v13, v14, v15, v16, v17, v18, v19, v20, v21, v22, v23, v24, v25, v26, v27])), (t0, .inl (tc, 8, .inl tf)), (a0, .inl (ac, 38, .inl nf)), (p0, .inl (pc, 7, .inr (.inl pf)))] := hD
  refine lv_iload_n hx hb dX9_seen_7 rfl (lv_at hl 0 rfl) ?_
  refine lv_aload_n hx hb dX9_seen_8 rfl (lv_at hl 3 rfl) ?_
  refine va_get (D := (dC, dI)) (ci := 7) (v := .ref a0) (C := RX9) (T := TX9) (N := 28) hx hb hts inX9 hown hK hP 0 rfl rfl 0 (by decide) (hts _ (List.mem_of_getElem? (i := 1) rfl)) (fun _ h9 => h9) rfl dX9_seen_9 ?_
  refine lv_iconst (v := 1) hx hb dX9_seen_12 (by decide) ?_
  refine va_iald hx hb hK hP 2 1 rfl rfl (vp_in_nI (n := 1) (by decide) (by decide)) dX9_seen_13 ?_
  refine pp_ti (y := nf 1) rfl ?_
  refine lv_topi (fun n_2 en_2 => ?_)
  have tn_2 : n_2.toInt = (nf 1).toInt ∧ 0 ≤ n_2.toInt ∧ n_2.toInt ≤ 7 := mI_r1 hI en_2
  clear en_2
  have rc_3_x := pp_rng v3_7
  have rc_3_y := pp_rng n_2
  refine lv_icmp_ge (tgt := 58) hx hb dX9_seen_14 (by decide) (fun c_3 => ?_) (fun c_3 => ?_)
  · skip
    have tc_3 : n_2.toInt ≤ v3_7.toInt := (fa_le _ _).mp c_3
    refine lv_iload_n hx hb dX9_seen_58 rfl (lv_at hl 2 rfl) ?_
    refine lv_if_ge (tgt := 71) hx hb dX9_seen_59 (by decide) (fun c_4 => ?_) (fun c_4 => ?_)
    · skip
      have tc_4 : 0 ≤ v1_7.toInt := (fa_le _ _).mp c_4
      refine lv_iload_n hx hb dX9_seen_71 rfl (lv_at hl 2 rfl) ?_
      have hP9 := hP.sub (ws' := [(h0, .inr (7, [.ref a0, v1, .ref p0, v3, v4, .ref t0, v6, v7, v8, v9, v10, v11, v12, v13, v14, v15, v16, v17, v18, v19, v20, v21, v22, v23, v24, v25, v26, v27])), (t0, .inl (tc, 8, .inl tf)), (a0, .inl (ac, 38, .inl nf)), (p0, .inl (pc, 7, .inr (.inl pf)))]) [0, 1, 2, 3] rfl
      have hD9 := hD.sub (ws' := [(h0, .inr (7, [.ref a0, v1, .ref p0, v3, v4, .ref t0, v6, v7, v8, v9, v10, v11, v12, v13, v14, v15, v16, v17, v18, v19, v20, v21, v22, v23, v24, v25, v26, v27])), (t0, .inl (tc, 8, .inl tf)), (a0, .inl (ac, 38, .inl nf)), (p0, .inl (pc, 7, .inr (.inl pf)))]) [0, 1, 2, 3] (by decide) rfl
      have hK9 := hK.sub (tys' := [(tc, .int), (ac, .int), (pc, .long)]) [0, 1, 2] rfl
      exact W.iret (v := v1_7) hx hb hr (fun t ht hW => ⟨⟨v1_7, (), rfl, trivial, tf, by rw [ht]; exact hP9, va_K.moved hW.alike hK9, hD9⟩, hS.F ht⟩) hS.2.2 dX9_seen_72
    · skip
      have tc_4 : ¬ 0 ≤ v1_7.toInt := fun h => c_4 ((fa_le _ _).mpr h)
      refine lv_aload_n hx hb dX9_seen_62 rfl (lv_at hl 3 rfl) ?_
      refine lv_ldc hx hb hown (hts _ (List.mem_of_getElem? (i := 2) rfl)) dX9_seen_63 ?_
      have hPc := hP.sub (ws' := [(h0, .inr (7, [.ref a0, v1, .ref p0, v3, v4, .ref t0, v6, v7, v8, v9, v10, v11, v12, v13, v14, v15, v16, v17, v18, v19, v20, v21, v22, v23, v24, v25, v26, v27])), (t0, .inl (tc, 8, .inl tf))]) [0, 1] rfl
      have hKc := hK.sub (tys' := [(tc, .int)]) [0] rfl
      have hDc := hD.sub (ws' := [(h0, .inr (7, [.ref a0, v1, .ref p0, v3, v4, .ref t0, v6, v7, v8, v9, v10, v11, v12, v13, v14, v15, v16, v17, v18, v19, v20, v21, v22, v23, v24, v25, v26, v27])), (t0, .inl (tc, 8, .inl tf))]) [0, 1] (by decide) rfl
      have hFc := va_free (wc := [(h0, .inr (7, [.ref a0, v1, .ref p0, v3, v4, .ref t0, v6, v7, v8, v9, v10, v11, v12, v13, v14, v15, v16, v17, v18, v19, v20, v21, v22, v23, v24, v25, v26, v27])), (t0, .inl (tc, 8, .inl tf))]) hD hS hA [0, 1] rfl
      refine va_calli (va_runV (As := [.int (-1000000004)]) (rest := []) ⟨hx, hb, hml, hown, hts⟩ (mf_none l dC dI ad h0 (.ref a0) v1 (.ref p0) v3 v4 t0 v6 v7 v8 v9 v10 v11 v12 v13 v14 v15 v16 v17 v18 v19 v20 v21 v22 v23 v24 v25 v26 v27 tc tf H.size ) (cwV 1 hts g_m_seen_mf_none_84 rfl rfl rfl (by decide +kernel) ⟨(Nat.le_of_ble_eq_true rfl), (Nat.le_of_ble_eq_true rfl)⟩) ⟨preM_blind, va_recv hKc hPc (ci := 7) (q0 := 0) rfl rfl, fun U hU hW => ⟨rfl, preM_at hU hW hPc hKc hDc hev⟩⟩ rfl rfl hl.1 rfl (lv_room (Nat.le_of_ble_eq_true rfl)) dX9_seen_65 ⟨(Nat.le_of_ble_eq_true rfl), (Nat.le_of_ble_eq_true rfl)⟩) hS (fun q _ h => hFc q h) hFc (fun r_5 u t H1 locs ht hvm hw hB hz1 hk1 hS => ?_)
      obtain ⟨tg_6, hP1, hK1, hD1⟩ := hB
      rw [ht] at hP1
      have hK1 := va_K.moved hvm.symm hK1
      obtain ⟨hP, hD⟩ := va_join (wr := [(a0, .inl (ac, 38, .inl nf)), (p0, .inl (pc, 7, .inr (.inl pf)))]) (w1 := [(h0, .inr (7, [.ref a0, v1, .ref p0, v3, v4, .ref t0, v6, v7, v8, v9, v10, v11, v12, v13, v14, v15, v16, v17, v18, v19, v20, v21, v22, v23, v24, v25, v26, v27])), (t0, .inl (tc, 8, .inl tg_6))]) hP hD [0, 1] [2, 3] rfl rfl (by decide) (by decide) hk1 hFc hP1 hD1
      generalize H1 = H at hP hS ⊢
      have hP : va_P (dC, dI) vwCl [(a0, .inl (ac, 38, .inl nf)), (p0, .inl (pc, 7, .inr (.inl pf))), (h0, .inr (7, [.ref a0, v1, .ref p0, v3, v4, .ref t0, v6, v7, v8, v9, v10, v11, v12, v13, v14, v15, v16, v17, v18, v19, v20, v21, v22, v23, v24, v25, v26, v27])), (t0, .inl (tc, 8, .inl tg_6))] H := hP
      have hD : va_D A [(a0, .inl (ac, 38, .inl nf)), (p0, .inl (pc, 7, .inr (.inl pf))), (h0, .inr (7, [.ref a0, v1, .ref p0, v3, v4, .ref t0, v6, v7, v8, v9, v10, v11, v12, v13, v14, v15, v16, v17, v18, v19, v20, v21, v22, v23, v24, v25, v26, v27])), (t0, .inl (tc, 8, .inl tg_6))] := hD
      subst hw
      refine lv_goto (tgt := 72) hx hb dX9_seen_68 (by decide) ?_
      have hP9 := hP.sub (ws' := [(h0, .inr (7, [.ref a0, v1, .ref p0, v3, v4, .ref t0, v6, v7, v8, v9, v10, v11, v12, v13, v14, v15, v16, v17, v18, v19, v20, v21, v22, v23, v24, v25, v26, v27])), (t0, .inl (tc, 8, .inl tg_6)), (a0, .inl (ac, 38, .inl nf)), (p0, .inl (pc, 7, .inr (.inl pf)))]) [2, 3, 0, 1] rfl
      have hD9 := hD.sub (ws' := [(h0, .inr (7, [.ref a0, v1, .ref p0, v3, v4, .ref t0, v6, v7, v8, v9, v10, v11, v12, v13, v14, v15, v16, v17, v18, v19, v20, v21, v22, v23, v24, v25, v26, v27])), (t0, .inl (tc, 8, .inl tg_6)), (a0, .inl (ac, 38, .inl nf)), (p0, .inl (pc, 7, .inr (.inl pf)))]) [2, 3, 0, 1] (by decide) rfl
      have hK9 := hK.sub (tys' := [(tc, .int), (ac, .int), (pc, .long)]) [0, 1, 2] rfl
      exact W.iret (v := ((-1000000004) : Int32)) hx hb hr (fun t ht hW => ⟨⟨((-1000000004) : Int32), (), rfl, trivial, tg_6, by rw [ht]; exact hP9, va_K.moved hW.alike hK9, hD9⟩, hS.F ht⟩) hS.2.2 dX9_seen_72
  · skip
    have tc_3 : ¬ n_2.toInt ≤ v3_7.toInt := fun h => c_3 ((fa_le _ _).mpr h)
    refine lv_aload_n hx hb dX9_seen_17 rfl (lv_at hl 3 rfl) ?_
    refine va_get (D := (dC, dI)) (ci := 7) (v := .ref p0) (C := RX9) (T := TX9) (N := 28) hx hb hts inX9 hown hK hP 0 rfl rfl 2 (by decide) (hts _ (List.mem_of_getElem? (i := 10) rfl)) (fun _ h9 => h9) rfl dX9_seen_18 ?_
    refine lv_iload_n hx hb dX9_seen_21 rfl (lv_at hl 0 rfl) ?_
    refine va_lald hx hb hK hP 3 2 rfl rfl (vp_in_iff.mpr ⟨by omega, by omega⟩) dX9_seen_22 ?_
    refine lv_topl (fun n_7 en_7 => ?_)
    clear en_7
    refine lv_aload_n hx hb dX9_seen_23 rfl (lv_at hl 3 rfl) ?_
    have hPc := hP.sub (ws' := [(h0, .inr (7, [.ref a0, v1, .ref p0, v3, v4, .ref t0, v6, v7, v8, v9, v10, v11, v12, v13, v14, v15, v16, v17, v18, v19, v20, v21, v22, v23, v24, v25, v26, v27])), (a0, .inl (ac, 38, .inl nf))]) [0, 2] rfl
    have hKc := hK.sub (tys' := [(ac, .int)]) [1] rfl
    refine vp_callSl (W.runV (As := []) (rest := [.long n_7]) ⟨hx, hb, hml, hown, hts⟩ (m_dark l dC dI ad h0 a0 v1 (.ref p0) v3 v4 (.ref t0) v6 v7 v8 v9 v10 v11 v12 v13 v14 v15 v16 v17 v18 v19 v20 v21 v22 v23 v24 v25 v26 v27 ac nf hI) (cwV 0 hts g_m_seen_m_dark_146 rfl rfl rfl (by decide +kernel) ⟨(Nat.le_of_ble_eq_true rfl), (Nat.le_of_ble_eq_true rfl)⟩) ⟨preS_blind, va_recv hKc hPc (ci := 7) (q0 := 0) rfl rfl, fun U hU hW => ⟨rfl, preS_at hU hW hPc hKc hev⟩⟩ rfl rfl hl.1 rfl (lv_room (Nat.le_of_ble_eq_true rfl)) dX9_seen_24 ⟨(Nat.le_of_ble_eq_true rfl), (Nat.le_of_ble_eq_true rfl)⟩) (fun r_8 hw => ?_)
    refine lv_lxor hx hb dX9_seen_27 ?_
    refine lv_topl (fun n_9 en_9 => ?_)
    clear en_9
    have hPc := hP.sub (ws' := []) [] rfl
    have hKc := hK.sub (tys' := []) [] rfl
    refine vp_callSi (W.runS (As := [.long n_9]) (rest := []) ⟨hx, hb, hml, hown, hts⟩ (m_bits2 l dC dI ad n_9 ) (va_cwS 1 hts g_m_seen_m_bits2_158 rfl rfl rfl (by decide +kernel) ⟨(Nat.le_of_ble_eq_true rfl), (Nat.le_of_ble_eq_true rfl)⟩) ⟨preS_blind, fun U hU hW => ⟨rfl, preS_at hU hW hPc hKc hev⟩⟩ rfl rfl hl.1 rfl (lv_room (Nat.le_of_ble_eq_true rfl)) dX9_seen_28 ⟨(Nat.le_of_ble_eq_true rfl), (Nat.le_of_ble_eq_true rfl)⟩) (fun r_10 hw => ?_)
    have hr_10 : (0 ≤ r_10.toInt ∧ r_10.toInt ≤ 64) ∧ (n_9.toBitVec.toNat < 512 → r_10.toInt = (pop9 n_9.toBitVec.toNat : Int)) := hw
    refine lv_istore (lv' := [(4, .int r_10), (3, .int v3_7), (2, .int v2_7), (1, .int v1_7), (0, .ref h0)]) hx hb dX9_seen_31 hl (by decide) rfl (fun ls hl => ?_)
    refine lv_iload hx hb dX9_seen_33 (lv_at hl 0 rfl) ?_
    refine lv_iload_n hx hb dX9_seen_35 rfl (lv_at hl 2 rfl) ?_
    have rc_11_x := pp_rng r_10
    have rc_11_y := pp_rng v2_7
    refine lv_icmp_ge (tgt := 43) hx hb dX9_seen_36 (by decide) (fun c_11 => ?_) (fun c_11 => ?_)
    · skip
      have tc_11 : v2_7.toInt ≤ r_10.toInt := (fa_le _ _).mp c_11
      refine lv_iload_n hx hb dX9_seen_43 rfl (lv_at hl 3 rfl) ?_
      refine lv_istore_n (lv' := [(1, .int v1_7), (4, .int r_10), (3, .int v3_7), (2, .int v2_7), (0, .ref h0)]) hx hb dX9_seen_44 rfl hl (by decide) rfl (fun ls hl => ?_)
      refine lv_iload_n hx hb dX9_seen_45 rfl (lv_at hl 3 rfl) ?_
      refine lv_iload hx hb dX9_seen_46 (lv_at hl 1 rfl) ?_
      refine va_mmin hx hb (by rw [hml]; exact hl.1.symm) hown (hts _ (List.mem_of_getElem? (i := 55) rfl)) (hts _ (List.mem_of_getElem? (i := 56) rfl)) (hts _ (List.mem_of_getElem? (i := 57) rfl)) (hts _ (List.mem_of_getElem? (i := 58) rfl)) (Nat.le_of_ble_eq_true rfl) (Nat.le_of_ble_eq_true rfl) (Nat.le_of_ble_eq_true rfl) (Nat.le_of_ble_eq_true rfl) dX9_seen_48 ?_
      refine lv_topi (fun n_12 en_12 => ?_)
      have tn_12 : n_12.toInt ≤ v2_7.toInt ∧ n_12.toInt ≤ r_10.toInt ∧ (n_12.toInt = v2_7.toInt ∨ n_12.toInt = r_10.toInt) := pp_min en_12
      refine lv_istore_n (lv' := [(2, .int n_12), (1, .int v1_7), (4, .int r_10), (3, .int v3_7), (0, .ref h0)]) hx hb dX9_seen_51 rfl hl (by decide) rfl (fun ls hl => ?_)
      obtain ⟨n_13, en_13⟩ : ∃ y : Int32, y = v3_7 + 1 := ⟨_, rfl⟩
      have tn_13 : n_13.toInt = v3_7.toInt + 1 := pp_add en_13 rfl rfl (by omega) (by omega)
      refine lv_iinc (v := n_13) (lv' := [(3, .int n_13), (2, .int n_12), (1, .int v1_7), (4, .int r_10), (0, .ref h0)]) hx hb dX9_seen_52 hl (k := 3) rfl (by rw [en_13]; rfl) (by decide) rfl (fun ls hl => ?_)
      clear en_13
      refine lv_goto (tgt := 7) hx hb dX9_seen_55 (by decide) ?_
      exact ihk_1 (n_13, n_12, v1_7) _ _ _ (by show ((nf 1).toInt - n_13.toInt).toNat < k_1; omega) ⟨(by first | omega | decide | (simp only [fa_lt, fa_le, fa_eq, and_true, true_and, and_false, false_and, not_true_eq_false, not_false_eq_true, li_0, li_1, li_2, li_3, li_4, li_5, li_6, li_7, li_8, li_9, li_10, li_12, li_15, li_16, li_20, li_30, li_34, li_38, li_40, li_63, li_64, li_65, li_78, li_120, li_1000, li_4000, li_10000, li_11077, li_255, li_65535, li_m1, li_m2, li_m1000000001, li_m1000000002, li_m1000000003, li_m1000000004, li_m1000000005, li_m1000000006, li_m1000000007, or_true, true_or, or_false, false_or, implies_true, true_implies, false_implies] <;> omega)), hP.sub [0, 1, 2, 3] rfl, hD.sub [0, 1, 2, 3] (by decide) rfl, hS, lv_sub hl [0, 1, 2, 4] rfl⟩
    · skip
      have tc_11 : ¬ v2_7.toInt ≤ r_10.toInt := fun h => c_11 ((fa_le _ _).mpr h)
      refine lv_iload_n hx hb dX9_seen_39 rfl (lv_at hl 1 rfl) ?_
      refine lv_goto (tgt := 44) hx hb dX9_seen_40 (by decide) ?_
      refine lv_istore_n (lv' := [(1, .int v3_7), (4, .int r_10), (3, .int v3_7), (2, .int v2_7), (0, .ref h0)]) hx hb dX9_seen_44 rfl hl (by decide) rfl (fun ls hl => ?_)
      refine lv_iload_n hx hb dX9_seen_45 rfl (lv_at hl 3 rfl) ?_
      refine lv_iload hx hb dX9_seen_46 (lv_at hl 1 rfl) ?_
      refine va_mmin hx hb (by rw [hml]; exact hl.1.symm) hown (hts _ (List.mem_of_getElem? (i := 55) rfl)) (hts _ (List.mem_of_getElem? (i := 56) rfl)) (hts _ (List.mem_of_getElem? (i := 57) rfl)) (hts _ (List.mem_of_getElem? (i := 58) rfl)) (Nat.le_of_ble_eq_true rfl) (Nat.le_of_ble_eq_true rfl) (Nat.le_of_ble_eq_true rfl) (Nat.le_of_ble_eq_true rfl) dX9_seen_48 ?_
      refine lv_topi (fun n_14 en_14 => ?_)
      have tn_14 : n_14.toInt ≤ v2_7.toInt ∧ n_14.toInt ≤ r_10.toInt ∧ (n_14.toInt = v2_7.toInt ∨ n_14.toInt = r_10.toInt) := pp_min en_14
      refine lv_istore_n (lv' := [(2, .int n_14), (1, .int v3_7), (4, .int r_10), (3, .int v3_7), (0, .ref h0)]) hx hb dX9_seen_51 rfl hl (by decide) rfl (fun ls hl => ?_)
      obtain ⟨n_15, en_15⟩ : ∃ y : Int32, y = v3_7 + 1 := ⟨_, rfl⟩
      have tn_15 : n_15.toInt = v3_7.toInt + 1 := pp_add en_15 rfl rfl (by omega) (by omega)
      refine lv_iinc (v := n_15) (lv' := [(3, .int n_15), (2, .int n_14), (1, .int v3_7), (4, .int r_10), (0, .ref h0)]) hx hb dX9_seen_52 hl (k := 3) rfl (by rw [en_15]; rfl) (by decide) rfl (fun ls hl => ?_)
      clear en_15
      refine lv_goto (tgt := 7) hx hb dX9_seen_55 (by decide) ?_
      exact ihk_1 (n_15, n_14, v3_7) _ _ _ (by show ((nf 1).toInt - n_15.toInt).toNat < k_1; omega) ⟨(by first | omega | decide | (simp only [fa_lt, fa_le, fa_eq, and_true, true_and, and_false, false_and, not_true_eq_false, not_false_eq_true, li_0, li_1, li_2, li_3, li_4, li_5, li_6, li_7, li_8, li_9, li_10, li_12, li_15, li_16, li_20, li_30, li_34, li_38, li_40, li_63, li_64, li_65, li_78, li_120, li_1000, li_4000, li_10000, li_11077, li_255, li_65535, li_m1, li_m2, li_m1000000001, li_m1000000002, li_m1000000003, li_m1000000004, li_m1000000005, li_m1000000006, li_m1000000007, or_true, true_or, or_false, false_or, implies_true, true_implies, false_implies] <;> omega)), hP.sub [0, 1, 2, 3] rfl, hD.sub [0, 1, 2, 3] (by decide) rfl, hS, lv_sub hl [0, 1, 2, 4] rfl⟩

def w_m_closest : List Cond := .code yX9_closest cX9_closest 4 (some .int) :: (([.fieldLink RX9 9 "LampShapesModel" "now" "[I", .constant RX9 150 (-1000000004), .methodLink RX9 84 yX9_finding, .instanceMethod yX9_finding, .selects RX9 yX9_finding yX9_finding, .initialized RX9, .code yX9_finding cX9_finding 2 (some .int), .fieldLink RX9 23 "LampShapesModel" "found" "[I", .constant RX9 74 (-1000000001), .fieldLink RX9 16 "LampShapesModel" "pictures" "[J", .methodLink RX9 158 yX9_bits, .static yX9_bits, .code yX9_bits cX9_bits 5 (some .int), .methodLink RX9 171 Lib.Math.min.name, .static Lib.Math.min.name, .initialized "java/lang/Math", .code Lib.Math.min.name Lib.Math.min.code 2 (some .int)] : List Cond) ++ wsX90)
set_option maxRecDepth 20000 in
theorem g_m_closest_mf_none_84 : GoodIn w_m_closest (wsV RX9 84 RX9 yX9_finding w_mf_none) := goodIn_r _ [3, 4, 5, 6, 7, 8, 9, 18, 19, 20, 21, 22, 23, 24, 25, 26, 27, 28, 29, 30, 31, 32, 33, 34, 35, 36, 37, 38, 39, 40, 41, 42, 43, 44, 45] rfl (by decide +kernel)
set_option maxRecDepth 20000 in
theorem g_m_closest_m_bits2_158 : GoodIn w_m_closest (va_wsS RX9 158 yX9_bits w_m_bits2) := goodIn_r _ [11, 12, 6, 13] rfl (by decide +kernel)
set_option maxHeartbeats 4000000 in
set_option maxRecDepth 100000 in
theorem m_closest (l : Launch) (dC : Nat → ClassId) (dI : Nat → Nat → Nat) (ad : Nat → Nat) (h0 : Nat) (a0 : Nat) (v1 : Value) (p0 : Nat) (v3 : Value) (v4 : Value) (t0 : Nat) (v6 : Value) (v7 : Value) (v8 : Value) (v9 : Value) (v10 : Value) (v11 : Value) (v12 : Value) (v13 : Value) (v14 : Value) (v15 : Value) (v16 : Value) (v17 : Value) (v18 : Value) (v19 : Value) (v20 : Value) (v21 : Value) (v22 : Value) (v23 : Value) (v24 : Value) (v25 : Value) (v26 : Value) (v27 : Value) (tc : ClassId) (tf : Nat → Int32) (ac : ClassId) (nf : Nat → Int32) (pc : ClassId) (pf : Nat → Int64) (sz : Nat) (hI : mI nf) : Met l yX9_closest w_m_closest ({ frames := 1, cells := 0, slots := 0, locals := 24 } : Room) (va_Pc [.ref h0] (preM dC dI ad [(tc, .int), (ac, .int), (pc, .long)] [(h0, .inr (7, [.ref a0, v1, .ref p0, v3, v4, .ref t0, v6, v7, v8, v9, v10, v11, v12, v13, v14, v15, v16, v17, v18, v19, v20, v21, v22, v23, v24, v25, v26, v27])), (t0, .inl (tc, 8, .inl tf)), (a0, .inl (ac, 38, .inl nf)), (p0, .inl (pc, 7, .inr (.inl pf)))] sz)) (va_Qi (fun (r : Int32) (_ : Unit) => True) (fun _ t => ∃ (tg : Nat → Int32), va_P (dC, dI) vwCl [(h0, .inr (7, [.ref a0, v1, .ref p0, v3, v4, .ref t0, v6, v7, v8, v9, v10, v11, v12, v13, v14, v15, v16, v17, v18, v19, v20, v21, v22, v23, v24, v25, v26, v27])), (t0, .inl (tc, 8, .inl tg)), (a0, .inl (ac, 38, .inl nf)), (p0, .inl (pc, 7, .inr (.inl pf)))] t.heap ∧ va_K (dC, dI) vwCl [(tc, .int), (ac, .int), (pc, .long)] t ∧ va_D (va_A [(h0, .inr (7, [.ref a0, v1, .ref p0, v3, v4, .ref t0, v6, v7, v8, v9, v10, v11, v12, v13, v14, v15, v16, v17, v18, v19, v20, v21, v22, v23, v24, v25, v26, v27])), (t0, .inl (tc, 8, .inl tf)), (a0, .inl (ac, 38, .inl nf)), (p0, .inl (pc, 7, .inr (.inl pf)))] sz) [(h0, .inr (7, [.ref a0, v1, .ref p0, v3, v4, .ref t0, v6, v7, v8, v9, v10, v11, v12, v13, v14, v15, v16, v17, v18, v19, v20, v21, v22, v23, v24, v25, v26, v27])), (t0, .inl (tc, 8, .inl tg)), (a0, .inl (ac, 38, .inl nf)), (p0, .inl (pc, 7, .inr (.inl pf)))]) (va_A [(h0, .inr (7, [.ref a0, v1, .ref p0, v3, v4, .ref t0, v6, v7, v8, v9, v10, v11, v12, v13, v14, v15, v16, v17, v18, v19, v20, v21, v22, v23, v24, v25, v26, v27])), (t0, .inl (tc, 8, .inl tf)), (a0, .inl (ac, 38, .inl nf)), (p0, .inl (pc, 7, .inr (.inl pf)))] sz)) 0 0 (va_A [(h0, .inr (7, [.ref a0, v1, .ref p0, v3, v4, .ref t0, v6, v7, v8, v9, v10, v11, v12, v13, v14, v15, v16, v17, v18, v19, v20, v21, v22, v23, v24, v25, v26, v27])), (t0, .inl (tc, 8, .inl tf)), (a0, .inl (ac, 38, .inl nf)), (p0, .inl (pc, 7, .inr (.inl pf)))] sz) := by
  refine Met.ofW (cc := cX9_closest) (maxL := 4) (ret := (some .int)) (by decide) rfl ?_
  intro p e s m args below meth c s₁ B hml hv
  obtain ⟨rfl, hsz, hP, hK, hD0, hev⟩ := hv
  have hx := B.exec
  have hb := B.bytes
  have hr := B.returns
  have hts := atoms_spec (ws := w_m_closest) B.pre
  have hown : s.vm.findClass RX9 = some m.cls := findClass_of_methodNamed B.named
  have hlocks := B.notSynchronized
  have inX9 : ∀ w ∈ wsX90, w ∈ w_m_closest := fun w h => List.mem_cons_of_mem _ (List.mem_append_right _ h)
  subst hsz
  have hD := hD0.self (sz := s.heap.size)
  generalize hAe : va_A [(h0, .inr (7, [.ref a0, v1, .ref p0, v3, v4, .ref t0, v6, v7, v8, v9, v10, v11, v12, v13, v14, v15, v16, v17, v18, v19, v20, v21, v22, v23, v24, v25, v26, v27])), (t0, .inl (tc, 8, .inl tf)), (a0, .inl (ac, 38, .inl nf)), (p0, .inl (pc, 7, .inr (.inl pf)))] s.heap.size = A at hD ⊢
  have hA : ∀ q : Nat, s.heap.size ≤ q → A q := fun q h => by rw [← hAe]; exact Or.inr h
  have hS : va_S A s.heap s.heap [] := va_S.rf
  have hP : va_P (dC, dI) vwCl [(h0, .inr (7, [.ref a0, v1, .ref p0, v3, v4, .ref t0, v6, v7, v8, v9, v10, v11, v12, v13, v14, v15, v16, v17, v18, v19, v20, v21, v22, v23, v24, v25, v26, v27])), (t0, .inl (tc, 8, .inl tf)), (a0, .inl (ac, 38, .inl nf)), (p0, .inl (pc, 7, .inr (.inl pf)))] s.heap := hP
  have hl := lv_entry ([.ref h0]) (n := 4) (Nat.le_of_ble_eq_true rfl)
  rw [lg_entry_eq]
  generalize (lg_sl ([.ref h0]) ++ List.replicate (4 - (lg_sl ([.ref h0])).length) Slot.unset).toArray = ls at hl ⊢
  have hl : lv_has ls 4 [(0, .ref h0)] := hl
  refine lv_bipush (v := 65) hx hb dX9_closest_0 (by decide) ?_
  refine lv_istore_n (lv' := [(1, .int 65), (0, .ref h0)]) hx hb dX9_closest_2 rfl hl (by decide) rfl (fun ls hl => ?_)
  refine lv_iconst (v := 0) hx hb dX9_closest_3 (by decide) ?_
  refine lv_istore_n (lv' := [(2, .int 0), (1, .int 65), (0, .ref h0)]) hx hb dX9_closest_4 rfl hl (by decide) rfl (fun ls hl => ?_)
  refine pp_loop (ι := Int32 × Int32) (fun ⟨v2_5, v1_5⟩ => ((nf 1).toInt - v2_5.toInt).toNat) (fun ⟨v2_5, v1_5⟩ H locs ls => (0 ≤ v2_5.toInt) ∧ va_P (dC, dI) vwCl [(h0, .inr (7, [.ref a0, v1, .ref p0, v3, v4, .ref t0, v6, v7, v8, v9, v10, v11, v12, v13, v14, v15, v16, v17, v18, v19, v20, v21, v22, v23, v24, v25, v26, v27])), (t0, .inl (tc, 8, .inl tf)), (a0, .inl (ac, 38, .inl nf)), (p0, .inl (pc, 7, .inr (.inl pf)))] H ∧ va_D A [(h0, .inr (7, [.ref a0, v1, .ref p0, v3, v4, .ref t0, v6, v7, v8, v9, v10, v11, v12, v13, v14, v15, v16, v17, v18, v19, v20, v21, v22, v23, v24, v25, v26, v27])), (t0, .inl (tc, 8, .inl tf)), (a0, .inl (ac, 38, .inl nf)), (p0, .inl (pc, 7, .inr (.inl pf)))] ∧ va_S A s.heap H locs ∧ lv_has ls 4 [(2, .int v2_5), (1, .int v1_5), (0, .ref h0)]) ?_ (0, 65) _ _ _ ⟨(by first | omega | decide | (simp only [fa_lt, fa_le, fa_eq, and_true, true_and, and_false, false_and, not_true_eq_false, not_false_eq_true, li_0, li_1, li_2, li_3, li_4, li_5, li_6, li_7, li_8, li_9, li_10, li_12, li_15, li_16, li_20, li_30, li_34, li_38, li_40, li_63, li_64, li_65, li_78, li_120, li_1000, li_4000, li_10000, li_11077, li_255, li_65535, li_m1, li_m2, li_m1000000001, li_m1000000002, li_m1000000003, li_m1000000004, li_m1000000005, li_m1000000006, li_m1000000007, or_true, true_or, or_false, false_or, implies_true, true_implies, false_implies] <;> omega)), hP.sub [0, 1, 2, 3] rfl, hD.sub [0, 1, 2, 3] (by decide) rfl, hS, lv_sub hl [0, 1, 2] rfl⟩
  intro k_1 ihk_1 u H locs ls hm hI
  obtain ⟨v2_5, v1_5⟩ := u
  obtain ⟨jk_1_0, hP, hD, hS, hl⟩ := hI
  have hmk_1 : ((nf 1).toInt - v2_5.toInt).toNat < k_1 + 1 := hm
  clear hm
  have jk_1_0 : 0 ≤ v2_5.toInt := jk_1_0
  have hl : lv_has ls 4 [(2, .int v2_5), (1, .int v1_5), (0, .ref h0)] := hl
  have hP : va_P (dC, dI) vwCl [(h0, .inr (7, [.ref a0, v1, .ref p0, v3, v4, .ref t0, v6, v7, v8, v9, v10, v11, v12, v13, v14, v15, v16, v17, v18, v19, v20, v21, v22, v23, v24, v25, v26, v27])), (t0, .inl (tc, 8, .inl tf)), (a0, .inl (ac, 38, .inl nf)), (p0, .inl (pc, 7, .inr (.inl pf)))] H := hP
  have hD : va_D A [(h0, .inr (7, [.ref a0, v1, .ref p0, v3, v4, .ref t0, v6, v7, v8, v9, v10, v11, v12, v13, v14, v15, v16, v17, v18, v19, v20, v21, v22, v23, v24, v25, v26, v27])), (t0, .inl (tc, 8, .inl tf)), (a0, .inl (ac, 38, .inl nf)), (p0, .inl (pc, 7, .inr (.inl pf)))] := hD
  refine lv_iload_n hx hb dX9_closest_5 rfl (lv_at hl 0 rfl) ?_
  refine lv_aload_n hx hb dX9_closest_6 rfl (lv_at hl 2 rfl) ?_
  refine va_get (D := (dC, dI)) (ci := 7) (v := .ref a0) (C := RX9) (T := TX9) (N := 28) hx hb hts inX9 hown hK hP 0 rfl rfl 0 (by decide) (hts _ (List.mem_of_getElem? (i := 1) rfl)) (fun _ h9 => h9) rfl dX9_closest_7 ?_
  refine lv_iconst (v := 1) hx hb dX9_closest_10 (by decide) ?_
  refine va_iald hx hb hK hP 2 1 rfl rfl (vp_in_nI (n := 1) (by decide) (by decide)) dX9_closest_11 ?_
  refine pp_ti (y := nf 1) rfl ?_
  refine lv_topi (fun n_2 en_2 => ?_)
  have tn_2 : n_2.toInt = (nf 1).toInt ∧ 0 ≤ n_2.toInt ∧ n_2.toInt ≤ 7 := mI_r1 hI en_2
  clear en_2
  have rc_3_x := pp_rng v2_5
  have rc_3_y := pp_rng n_2
  refine lv_icmp_ge (tgt := 55) hx hb dX9_closest_12 (by decide) (fun c_3 => ?_) (fun c_3 => ?_)
  · skip
    have tc_3 : n_2.toInt ≤ v2_5.toInt := (fa_le _ _).mp c_3
    refine lv_iload_n hx hb dX9_closest_55 rfl (lv_at hl 1 rfl) ?_
    refine lv_bipush (v := 64) hx hb dX9_closest_56 (by decide) ?_
    refine lv_icmp_le (tgt := 70) hx hb dX9_closest_58 (by decide) (fun c_4 => ?_) (fun c_4 => ?_)
    · skip
      have tc_4 : v1_5.toInt ≤ 64 := (fa_le _ _).mp c_4
      refine lv_iload_n hx hb dX9_closest_70 rfl (lv_at hl 1 rfl) ?_
      have hP9 := hP.sub (ws' := [(h0, .inr (7, [.ref a0, v1, .ref p0, v3, v4, .ref t0, v6, v7, v8, v9, v10, v11, v12, v13, v14, v15, v16, v17, v18, v19, v20, v21, v22, v23, v24, v25, v26, v27])), (t0, .inl (tc, 8, .inl tf)), (a0, .inl (ac, 38, .inl nf)), (p0, .inl (pc, 7, .inr (.inl pf)))]) [0, 1, 2, 3] rfl
      have hD9 := hD.sub (ws' := [(h0, .inr (7, [.ref a0, v1, .ref p0, v3, v4, .ref t0, v6, v7, v8, v9, v10, v11, v12, v13, v14, v15, v16, v17, v18, v19, v20, v21, v22, v23, v24, v25, v26, v27])), (t0, .inl (tc, 8, .inl tf)), (a0, .inl (ac, 38, .inl nf)), (p0, .inl (pc, 7, .inr (.inl pf)))]) [0, 1, 2, 3] (by decide) rfl
      have hK9 := hK.sub (tys' := [(tc, .int), (ac, .int), (pc, .long)]) [0, 1, 2] rfl
      exact W.iret (v := v1_5) hx hb hr (fun t ht hW => ⟨⟨v1_5, (), rfl, trivial, tf, by rw [ht]; exact hP9, va_K.moved hW.alike hK9, hD9⟩, hS.F ht⟩) hS.2.2 dX9_closest_71
    · skip
      have tc_4 : ¬ v1_5.toInt ≤ 64 := fun h => c_4 ((fa_le _ _).mpr h)
      refine lv_aload_n hx hb dX9_closest_61 rfl (lv_at hl 2 rfl) ?_
      refine lv_ldc hx hb hown (hts _ (List.mem_of_getElem? (i := 2) rfl)) dX9_closest_62 ?_
      have hPc := hP.sub (ws' := [(h0, .inr (7, [.ref a0, v1, .ref p0, v3, v4, .ref t0, v6, v7, v8, v9, v10, v11, v12, v13, v14, v15, v16, v17, v18, v19, v20, v21, v22, v23, v24, v25, v26, v27])), (t0, .inl (tc, 8, .inl tf))]) [0, 1] rfl
      have hKc := hK.sub (tys' := [(tc, .int)]) [0] rfl
      have hDc := hD.sub (ws' := [(h0, .inr (7, [.ref a0, v1, .ref p0, v3, v4, .ref t0, v6, v7, v8, v9, v10, v11, v12, v13, v14, v15, v16, v17, v18, v19, v20, v21, v22, v23, v24, v25, v26, v27])), (t0, .inl (tc, 8, .inl tf))]) [0, 1] (by decide) rfl
      have hFc := va_free (wc := [(h0, .inr (7, [.ref a0, v1, .ref p0, v3, v4, .ref t0, v6, v7, v8, v9, v10, v11, v12, v13, v14, v15, v16, v17, v18, v19, v20, v21, v22, v23, v24, v25, v26, v27])), (t0, .inl (tc, 8, .inl tf))]) hD hS hA [0, 1] rfl
      refine va_calli (va_runV (As := [.int (-1000000004)]) (rest := []) ⟨hx, hb, hml, hown, hts⟩ (mf_none l dC dI ad h0 (.ref a0) v1 (.ref p0) v3 v4 t0 v6 v7 v8 v9 v10 v11 v12 v13 v14 v15 v16 v17 v18 v19 v20 v21 v22 v23 v24 v25 v26 v27 tc tf H.size ) (cwV 1 hts g_m_closest_mf_none_84 rfl rfl rfl (by decide +kernel) ⟨(Nat.le_of_ble_eq_true rfl), (Nat.le_of_ble_eq_true rfl)⟩) ⟨preM_blind, va_recv hKc hPc (ci := 7) (q0 := 0) rfl rfl, fun U hU hW => ⟨rfl, preM_at hU hW hPc hKc hDc hev⟩⟩ rfl rfl hl.1 rfl (lv_room (Nat.le_of_ble_eq_true rfl)) dX9_closest_64 ⟨(Nat.le_of_ble_eq_true rfl), (Nat.le_of_ble_eq_true rfl)⟩) hS (fun q _ h => hFc q h) hFc (fun r_5 u t H1 locs ht hvm hw hB hz1 hk1 hS => ?_)
      obtain ⟨tg_6, hP1, hK1, hD1⟩ := hB
      rw [ht] at hP1
      have hK1 := va_K.moved hvm.symm hK1
      obtain ⟨hP, hD⟩ := va_join (wr := [(a0, .inl (ac, 38, .inl nf)), (p0, .inl (pc, 7, .inr (.inl pf)))]) (w1 := [(h0, .inr (7, [.ref a0, v1, .ref p0, v3, v4, .ref t0, v6, v7, v8, v9, v10, v11, v12, v13, v14, v15, v16, v17, v18, v19, v20, v21, v22, v23, v24, v25, v26, v27])), (t0, .inl (tc, 8, .inl tg_6))]) hP hD [0, 1] [2, 3] rfl rfl (by decide) (by decide) hk1 hFc hP1 hD1
      generalize H1 = H at hP hS ⊢
      have hP : va_P (dC, dI) vwCl [(a0, .inl (ac, 38, .inl nf)), (p0, .inl (pc, 7, .inr (.inl pf))), (h0, .inr (7, [.ref a0, v1, .ref p0, v3, v4, .ref t0, v6, v7, v8, v9, v10, v11, v12, v13, v14, v15, v16, v17, v18, v19, v20, v21, v22, v23, v24, v25, v26, v27])), (t0, .inl (tc, 8, .inl tg_6))] H := hP
      have hD : va_D A [(a0, .inl (ac, 38, .inl nf)), (p0, .inl (pc, 7, .inr (.inl pf))), (h0, .inr (7, [.ref a0, v1, .ref p0, v3, v4, .ref t0, v6, v7, v8, v9, v10, v11, v12, v13, v14, v15, v16, v17, v18, v19, v20, v21, v22, v23, v24, v25, v26, v27])), (t0, .inl (tc, 8, .inl tg_6))] := hD
      subst hw
      refine lv_goto (tgt := 71) hx hb dX9_closest_67 (by decide) ?_
      have hP9 := hP.sub (ws' := [(h0, .inr (7, [.ref a0, v1, .ref p0, v3, v4, .ref t0, v6, v7, v8, v9, v10, v11, v12, v13, v14, v15, v16, v17, v18, v19, v20, v21, v22, v23, v24, v25, v26, v27])), (t0, .inl (tc, 8, .inl tg_6)), (a0, .inl (ac, 38, .inl nf)), (p0, .inl (pc, 7, .inr (.inl pf)))]) [2, 3, 0, 1] rfl
      have hD9 := hD.sub (ws' := [(h0, .inr (7, [.ref a0, v1, .ref p0, v3, v4, .ref t0, v6, v7, v8, v9, v10, v11, v12, v13, v14, v15, v16, v17, v18, v19, v20, v21, v22, v23, v24, v25, v26, v27])), (t0, .inl (tc, 8, .inl tg_6)), (a0, .inl (ac, 38, .inl nf)), (p0, .inl (pc, 7, .inr (.inl pf)))]) [2, 3, 0, 1] (by decide) rfl
      have hK9 := hK.sub (tys' := [(tc, .int), (ac, .int), (pc, .long)]) [0, 1, 2] rfl
      exact W.iret (v := ((-1000000004) : Int32)) hx hb hr (fun t ht hW => ⟨⟨((-1000000004) : Int32), (), rfl, trivial, tg_6, by rw [ht]; exact hP9, va_K.moved hW.alike hK9, hD9⟩, hS.F ht⟩) hS.2.2 dX9_closest_71
  · skip
    have tc_3 : ¬ n_2.toInt ≤ v2_5.toInt := fun h => c_3 ((fa_le _ _).mpr h)
    refine lv_iconst (v := 0) hx hb dX9_closest_15 (by decide) ?_
    refine lv_istore_n (lv' := [(3, .int 0), (2, .int v2_5), (1, .int v1_5), (0, .ref h0)]) hx hb dX9_closest_16 rfl hl (by decide) rfl (fun ls hl => ?_)
    refine pp_loop (ι := Int32 × Int32) (fun ⟨v3_17, v1_17⟩ => (v2_5.toInt - v3_17.toInt).toNat) (fun ⟨v3_17, v1_17⟩ H locs ls => (0 ≤ v3_17.toInt) ∧ va_P (dC, dI) vwCl [(h0, .inr (7, [.ref a0, v1, .ref p0, v3, v4, .ref t0, v6, v7, v8, v9, v10, v11, v12, v13, v14, v15, v16, v17, v18, v19, v20, v21, v22, v23, v24, v25, v26, v27])), (t0, .inl (tc, 8, .inl tf)), (a0, .inl (ac, 38, .inl nf)), (p0, .inl (pc, 7, .inr (.inl pf)))] H ∧ va_D A [(h0, .inr (7, [.ref a0, v1, .ref p0, v3, v4, .ref t0, v6, v7, v8, v9, v10, v11, v12, v13, v14, v15, v16, v17, v18, v19, v20, v21, v22, v23, v24, v25, v26, v27])), (t0, .inl (tc, 8, .inl tf)), (a0, .inl (ac, 38, .inl nf)), (p0, .inl (pc, 7, .inr (.inl pf)))] ∧ va_S A s.heap H locs ∧ lv_has ls 4 [(3, .int v3_17), (2, .int v2_5), (1, .int v1_17), (0, .ref h0)]) ?_ (0, v1_5) _ _ _ ⟨(by first | omega | decide | (simp only [fa_lt, fa_le, fa_eq, and_true, true_and, and_false, false_and, not_true_eq_false, not_false_eq_true, li_0, li_1, li_2, li_3, li_4, li_5, li_6, li_7, li_8, li_9, li_10, li_12, li_15, li_16, li_20, li_30, li_34, li_38, li_40, li_63, li_64, li_65, li_78, li_120, li_1000, li_4000, li_10000, li_11077, li_255, li_65535, li_m1, li_m2, li_m1000000001, li_m1000000002, li_m1000000003, li_m1000000004, li_m1000000005, li_m1000000006, li_m1000000007, or_true, true_or, or_false, false_or, implies_true, true_implies, false_implies] <;> omega)), hP.sub [0, 1, 2, 3] rfl, hD.sub [0, 1, 2, 3] (by decide) rfl, hS, lv_sub hl [0, 1, 2, 3] rfl⟩
    intro k_7 ihk_7 u H locs ls hm hI
    obtain ⟨v3_17, v1_17⟩ := u
    obtain ⟨jk_7_0, hP, hD, hS, hl⟩ := hI
    have hmk_7 : (v2_5.toInt - v3_17.toInt).toNat < k_7 + 1 := hm
    clear hm
    have jk_7_0 : 0 ≤ v3_17.toInt := jk_7_0
    have hl : lv_has ls 4 [(3, .int v3_17), (2, .int v2_5), (1, .int v1_17), (0, .ref h0)] := hl
    have hP : va_P (dC, dI) vwCl [(h0, .inr (7, [.ref a0, v1, .ref p0, v3, v4, .ref t0, v6, v7, v8, v9, v10, v11, v12, v13, v14, v15, v16, v17, v18, v19, v20, v21, v22, v23, v24, v25, v26, v27])), (t0, .inl (tc, 8, .inl tf)), (a0, .inl (ac, 38, .inl nf)), (p0, .inl (pc, 7, .inr (.inl pf)))] H := hP
    have hD : va_D A [(h0, .inr (7, [.ref a0, v1, .ref p0, v3, v4, .ref t0, v6, v7, v8, v9, v10, v11, v12, v13, v14, v15, v16, v17, v18, v19, v20, v21, v22, v23, v24, v25, v26, v27])), (t0, .inl (tc, 8, .inl tf)), (a0, .inl (ac, 38, .inl nf)), (p0, .inl (pc, 7, .inr (.inl pf)))] := hD
    refine lv_iload_n hx hb dX9_closest_17 rfl (lv_at hl 0 rfl) ?_
    refine lv_iload_n hx hb dX9_closest_18 rfl (lv_at hl 1 rfl) ?_
    have rc_8_x := pp_rng v3_17
    have rc_8_y := pp_rng v2_5
    refine lv_icmp_ge (tgt := 49) hx hb dX9_closest_19 (by decide) (fun c_8 => ?_) (fun c_8 => ?_)
    · skip
      have tc_8 : v2_5.toInt ≤ v3_17.toInt := (fa_le _ _).mp c_8
      obtain ⟨n_9, en_9⟩ : ∃ y : Int32, y = v2_5 + 1 := ⟨_, rfl⟩
      have tn_9 : n_9.toInt = v2_5.toInt + 1 := pp_add en_9 rfl rfl (by omega) (by omega)
      refine lv_iinc (v := n_9) (lv' := [(2, .int n_9), (3, .int v3_17), (1, .int v1_17), (0, .ref h0)]) hx hb dX9_closest_49 hl (k := 1) rfl (by rw [en_9]; rfl) (by decide) rfl (fun ls hl => ?_)
      clear en_9
      refine lv_goto (tgt := 5) hx hb dX9_closest_52 (by decide) ?_
      exact ihk_1 (n_9, v1_17) _ _ _ (by show ((nf 1).toInt - n_9.toInt).toNat < k_1; omega) ⟨(by first | omega | decide | (simp only [fa_lt, fa_le, fa_eq, and_true, true_and, and_false, false_and, not_true_eq_false, not_false_eq_true, li_0, li_1, li_2, li_3, li_4, li_5, li_6, li_7, li_8, li_9, li_10, li_12, li_15, li_16, li_20, li_30, li_34, li_38, li_40, li_63, li_64, li_65, li_78, li_120, li_1000, li_4000, li_10000, li_11077, li_255, li_65535, li_m1, li_m2, li_m1000000001, li_m1000000002, li_m1000000003, li_m1000000004, li_m1000000005, li_m1000000006, li_m1000000007, or_true, true_or, or_false, false_or, implies_true, true_implies, false_implies] <;> omega)), hP.sub [0, 1, 2, 3] rfl, hD.sub [0, 1, 2, 3] (by decide) rfl, hS, lv_sub hl [0, 2, 3] rfl⟩
    · skip
      have tc_8 : ¬ v2_5.toInt ≤ v3_17.toInt := fun h => c_8 ((fa_le _ _).mpr h)
      refine lv_iload_n hx hb dX9_closest_22 rfl (lv_at hl 2 rfl) ?_
      refine lv_aload_n hx hb dX9_closest_23 rfl (lv_at hl 3 rfl) ?_
      refine va_get (D := (dC, dI)) (ci := 7) (v := .ref p0) (C := RX9) (T := TX9) (N := 28) hx hb hts inX9 hown hK hP 0 rfl rfl 2 (by decide) (hts _ (List.mem_of_getElem? (i := 10) rfl)) (fun _ h9 => h9) rfl dX9_closest_24 ?_
      refine lv_iload_n hx hb dX9_closest_27 rfl (lv_at hl 1 rfl) ?_
      refine va_lald hx hb hK hP 3 2 rfl rfl (vp_in_iff.mpr ⟨by omega, by omega⟩) dX9_closest_28 ?_
      refine lv_topl (fun n_10 en_10 => ?_)
      clear en_10
      refine lv_aload_n hx hb dX9_closest_29 rfl (lv_at hl 3 rfl) ?_
      refine va_get (D := (dC, dI)) (ci := 7) (v := .ref p0) (C := RX9) (T := TX9) (N := 28) hx hb hts inX9 hown hK hP 0 rfl rfl 2 (by decide) (hts _ (List.mem_of_getElem? (i := 10) rfl)) (fun _ h9 => h9) rfl dX9_closest_30 ?_
      refine lv_iload_n hx hb dX9_closest_33 rfl (lv_at hl 0 rfl) ?_
      refine va_lald hx hb hK hP 3 2 rfl rfl (vp_in_iff.mpr ⟨by omega, by omega⟩) dX9_closest_34 ?_
      refine lv_topl (fun n_11 en_11 => ?_)
      clear en_11
      refine lv_lxor hx hb dX9_closest_35 ?_
      refine lv_topl (fun n_12 en_12 => ?_)
      clear en_12
      have hPc := hP.sub (ws' := []) [] rfl
      have hKc := hK.sub (tys' := []) [] rfl
      refine vp_callSi (W.runS (As := [.long n_12]) (rest := [.int v1_17]) ⟨hx, hb, hml, hown, hts⟩ (m_bits2 l dC dI ad n_12 ) (va_cwS 1 hts g_m_closest_m_bits2_158 rfl rfl rfl (by decide +kernel) ⟨(Nat.le_of_ble_eq_true rfl), (Nat.le_of_ble_eq_true rfl)⟩) ⟨preS_blind, fun U hU hW => ⟨rfl, preS_at hU hW hPc hKc hev⟩⟩ rfl rfl hl.1 rfl (lv_room (Nat.le_of_ble_eq_true rfl)) dX9_closest_36 ⟨(Nat.le_of_ble_eq_true rfl), (Nat.le_of_ble_eq_true rfl)⟩) (fun r_13 hw => ?_)
      have hr_13 : (0 ≤ r_13.toInt ∧ r_13.toInt ≤ 64) ∧ (n_12.toBitVec.toNat < 512 → r_13.toInt = (pop9 n_12.toBitVec.toNat : Int)) := hw
      refine va_mmin hx hb (by rw [hml]; exact hl.1.symm) hown (hts _ (List.mem_of_getElem? (i := 14) rfl)) (hts _ (List.mem_of_getElem? (i := 15) rfl)) (hts _ (List.mem_of_getElem? (i := 16) rfl)) (hts _ (List.mem_of_getElem? (i := 17) rfl)) (Nat.le_of_ble_eq_true rfl) (Nat.le_of_ble_eq_true rfl) (Nat.le_of_ble_eq_true rfl) (Nat.le_of_ble_eq_true rfl) dX9_closest_39 ?_
      refine lv_topi (fun n_14 en_14 => ?_)
      have tn_14 : n_14.toInt ≤ v1_17.toInt ∧ n_14.toInt ≤ r_13.toInt ∧ (n_14.toInt = v1_17.toInt ∨ n_14.toInt = r_13.toInt) := pp_min en_14
      refine lv_istore_n (lv' := [(1, .int n_14), (3, .int v3_17), (2, .int v2_5), (0, .ref h0)]) hx hb dX9_closest_42 rfl hl (by decide) rfl (fun ls hl => ?_)
      obtain ⟨n_15, en_15⟩ : ∃ y : Int32, y = v3_17 + 1 := ⟨_, rfl⟩
      have tn_15 : n_15.toInt = v3_17.toInt + 1 := pp_add en_15 rfl rfl (by omega) (by omega)
      refine lv_iinc (v := n_15) (lv' := [(3, .int n_15), (1, .int n_14), (2, .int v2_5), (0, .ref h0)]) hx hb dX9_closest_43 hl (k := 1) rfl (by rw [en_15]; rfl) (by decide) rfl (fun ls hl => ?_)
      clear en_15
      refine lv_goto (tgt := 17) hx hb dX9_closest_46 (by decide) ?_
      exact ihk_7 (n_15, n_14) _ _ _ (by show (v2_5.toInt - n_15.toInt).toNat < k_7; omega) ⟨(by first | omega | decide | (simp only [fa_lt, fa_le, fa_eq, and_true, true_and, and_false, false_and, not_true_eq_false, not_false_eq_true, li_0, li_1, li_2, li_3, li_4, li_5, li_6, li_7, li_8, li_9, li_10, li_12, li_15, li_16, li_20, li_30, li_34, li_38, li_40, li_63, li_64, li_65, li_78, li_120, li_1000, li_4000, li_10000, li_11077, li_255, li_65535, li_m1, li_m2, li_m1000000001, li_m1000000002, li_m1000000003, li_m1000000004, li_m1000000005, li_m1000000006, li_m1000000007, or_true, true_or, or_false, false_or, implies_true, true_implies, false_implies] <;> omega)), hP.sub [0, 1, 2, 3] rfl, hD.sub [0, 1, 2, 3] (by decide) rfl, hS, lv_sub hl [0, 2, 1, 3] rfl⟩

def w_m_allow : List Cond := .code yX9_allow cX9_allow 2 (some .int) :: (([.methodLink RX9 75 yX9_within, .static yX9_within, .initialized RX9, .code yX9_within cX9_within 3 (some .boolean), .constant RX9 74 (-1000000001), .methodLink RX9 84 yX9_finding, .instanceMethod yX9_finding, .selects RX9 yX9_finding yX9_finding, .code yX9_finding cX9_finding 2 (some .int), .fieldLink RX9 23 "LampShapesModel" "found" "[I", .methodLink RX9 102 yX9_putIn, .instanceMethod yX9_putIn, .selects RX9 yX9_putIn yX9_putIn, .code yX9_putIn cX9_putIn 4 (some .int), .fieldLink RX9 9 "LampShapesModel" "now" "[I"] : List Cond) ++ wsX90)
set_option maxRecDepth 20000 in
theorem g_m_allow_m_within_75 : GoodIn w_m_allow (va_wsS RX9 75 yX9_within w_m_within) := goodIn_r _ [1, 2, 3, 4] rfl (by decide +kernel)
set_option maxRecDepth 20000 in
theorem g_m_allow_mf_beyond_84 : GoodIn w_m_allow (wsV RX9 84 RX9 yX9_finding w_mf_beyond) := goodIn_r _ [6, 7, 8, 3, 9, 10, 5, 16, 17, 18, 19, 20, 21, 22, 23, 24, 25, 26, 27, 28, 29, 30, 31, 32, 33, 34, 35, 36, 37, 38, 39, 40, 41, 42, 43] rfl (by decide +kernel)
set_option maxRecDepth 20000 in
theorem g_m_allow_m_putIn2_102 : GoodIn w_m_allow (wsV RX9 102 RX9 yX9_putIn w_m_putIn2) := goodIn_r _ [11, 12, 13, 3, 14, 15, 16, 17, 18, 19, 20, 21, 22, 23, 24, 25, 26, 27, 28, 29, 30, 31, 32, 33, 34, 35, 36, 37, 38, 39, 40, 41, 42, 43] rfl (by decide +kernel)
set_option maxHeartbeats 4000000 in
set_option maxRecDepth 100000 in
theorem m_allow (l : Launch) (dC : Nat → ClassId) (dI : Nat → Nat → Nat) (ad : Nat → Nat) (h0 : Nat) (a : Int32) (a0 : Nat) (v1 : Value) (v2 : Value) (v3 : Value) (v4 : Value) (t0 : Nat) (v6 : Value) (v7 : Value) (v8 : Value) (v9 : Value) (v10 : Value) (v11 : Value) (v12 : Value) (v13 : Value) (v14 : Value) (v15 : Value) (v16 : Value) (v17 : Value) (v18 : Value) (v19 : Value) (v20 : Value) (v21 : Value) (v22 : Value) (v23 : Value) (v24 : Value) (v25 : Value) (v26 : Value) (v27 : Value) (tc : ClassId) (tf : Nat → Int32) (ac : ClassId) (nf : Nat → Int32) (sz : Nat) (hI : mI nf) : Met l yX9_allow w_m_allow ({ frames := 1, cells := 0, slots := 0, locals := 23 } : Room) (va_Pc [.ref h0, .int a] (preM dC dI ad [(tc, .int), (ac, .int)] [(h0, .inr (7, [.ref a0, v1, v2, v3, v4, .ref t0, v6, v7, v8, v9, v10, v11, v12, v13, v14, v15, v16, v17, v18, v19, v20, v21, v22, v23, v24, v25, v26, v27])), (t0, .inl (tc, 8, .inl tf)), (a0, .inl (ac, 38, .inl nf))] sz)) (va_Qi (fun (r : Int32) (_ : Unit) => ((0 ≤ a.toInt ∧ a.toInt ≤ 63 ∧ ¬ (a &&& 15).toInt = 0 ∧ 15 < a.toInt) → r.toInt = (nf 2).toInt) ∧ (¬ (0 ≤ a.toInt ∧ a.toInt ≤ 63 ∧ ¬ (a &&& 15).toInt = 0 ∧ 15 < a.toInt) → r.toInt = (-1000000001))) (fun _ t => ∃ (tg : Nat → Int32), ∃ (ng : Nat → Int32), (mI ng) ∧ (((0 ≤ a.toInt ∧ a.toInt ≤ 63 ∧ ¬ (a &&& 15).toInt = 0 ∧ 15 < a.toInt) → (ng 2).toInt = a.toInt) ∧ (¬ (0 ≤ a.toInt ∧ a.toInt ≤ 63 ∧ ¬ (a &&& 15).toInt = 0 ∧ 15 < a.toInt) → (ng 2).toInt = (nf 2).toInt)) ∧ va_P (dC, dI) vwCl [(h0, .inr (7, [.ref a0, v1, v2, v3, v4, .ref t0, v6, v7, v8, v9, v10, v11, v12, v13, v14, v15, v16, v17, v18, v19, v20, v21, v22, v23, v24, v25, v26, v27])), (t0, .inl (tc, 8, .inl tg)), (a0, .inl (ac, 38, .inl ng))] t.heap ∧ va_K (dC, dI) vwCl [(tc, .int), (ac, .int)] t ∧ va_D (va_A [(h0, .inr (7, [.ref a0, v1, v2, v3, v4, .ref t0, v6, v7, v8, v9, v10, v11, v12, v13, v14, v15, v16, v17, v18, v19, v20, v21, v22, v23, v24, v25, v26, v27])), (t0, .inl (tc, 8, .inl tf)), (a0, .inl (ac, 38, .inl nf))] sz) [(h0, .inr (7, [.ref a0, v1, v2, v3, v4, .ref t0, v6, v7, v8, v9, v10, v11, v12, v13, v14, v15, v16, v17, v18, v19, v20, v21, v22, v23, v24, v25, v26, v27])), (t0, .inl (tc, 8, .inl tg)), (a0, .inl (ac, 38, .inl ng))]) (va_A [(h0, .inr (7, [.ref a0, v1, v2, v3, v4, .ref t0, v6, v7, v8, v9, v10, v11, v12, v13, v14, v15, v16, v17, v18, v19, v20, v21, v22, v23, v24, v25, v26, v27])), (t0, .inl (tc, 8, .inl tf)), (a0, .inl (ac, 38, .inl nf))] sz)) 0 0 (va_A [(h0, .inr (7, [.ref a0, v1, v2, v3, v4, .ref t0, v6, v7, v8, v9, v10, v11, v12, v13, v14, v15, v16, v17, v18, v19, v20, v21, v22, v23, v24, v25, v26, v27])), (t0, .inl (tc, 8, .inl tf)), (a0, .inl (ac, 38, .inl nf))] sz) := by
  refine Met.ofW (cc := cX9_allow) (maxL := 2) (ret := (some .int)) (by decide) rfl ?_
  intro p e s m args below meth c s₁ B hml hv
  obtain ⟨rfl, hsz, hP, hK, hD0, hev⟩ := hv
  have hx := B.exec
  have hb := B.bytes
  have hr := B.returns
  have hts := atoms_spec (ws := w_m_allow) B.pre
  have hown : s.vm.findClass RX9 = some m.cls := findClass_of_methodNamed B.named
  have hlocks := B.notSynchronized
  have inX9 : ∀ w ∈ wsX90, w ∈ w_m_allow := fun w h => List.mem_cons_of_mem _ (List.mem_append_right _ h)
  subst hsz
  have hD := hD0.self (sz := s.heap.size)
  generalize hAe : va_A [(h0, .inr (7, [.ref a0, v1, v2, v3, v4, .ref t0, v6, v7, v8, v9, v10, v11, v12, v13, v14, v15, v16, v17, v18, v19, v20, v21, v22, v23, v24, v25, v26, v27])), (t0, .inl (tc, 8, .inl tf)), (a0, .inl (ac, 38, .inl nf))] s.heap.size = A at hD ⊢
  have hA : ∀ q : Nat, s.heap.size ≤ q → A q := fun q h => by rw [← hAe]; exact Or.inr h
  have hS : va_S A s.heap s.heap [] := va_S.rf
  have hP : va_P (dC, dI) vwCl [(h0, .inr (7, [.ref a0, v1, v2, v3, v4, .ref t0, v6, v7, v8, v9, v10, v11, v12, v13, v14, v15, v16, v17, v18, v19, v20, v21, v22, v23, v24, v25, v26, v27])), (t0, .inl (tc, 8, .inl tf)), (a0, .inl (ac, 38, .inl nf))] s.heap := hP
  have hl := lv_entry ([.ref h0, .int a]) (n := 2) (Nat.le_of_ble_eq_true rfl)
  rw [lg_entry_eq]
  generalize (lg_sl ([.ref h0, .int a]) ++ List.replicate (2 - (lg_sl ([.ref h0, .int a])).length) Slot.unset).toArray = ls at hl ⊢
  have hl : lv_has ls 2 [(0, .ref h0), (1, .int a)] := hl
  refine lv_iload_n hx hb dX9_allow_0 rfl (lv_at hl 1 rfl) ?_
  refine lv_iconst (v := 0) hx hb dX9_allow_1 (by decide) ?_
  refine lv_bipush (v := 63) hx hb dX9_allow_2 (by decide) ?_
  have hPc := hP.sub (ws' := []) [] rfl
  have hKc := hK.sub (tys' := []) [] rfl
  refine vp_callSi (W.runS (As := [.int a, .int 0, .int 63]) (rest := []) ⟨hx, hb, hml, hown, hts⟩ (m_within l dC dI ad a 0 63 ) (va_cwS 3 hts g_m_allow_m_within_75 rfl rfl rfl (by decide +kernel) ⟨(Nat.le_of_ble_eq_true rfl), (Nat.le_of_ble_eq_true rfl)⟩) ⟨preS_blind, fun U hU hW => ⟨rfl, preS_at hU hW hPc hKc hev⟩⟩ rfl rfl hl.1 rfl (lv_room (Nat.le_of_ble_eq_true rfl)) dX9_allow_4 ⟨(Nat.le_of_ble_eq_true rfl), (Nat.le_of_ble_eq_true rfl)⟩) (fun r_1 hw => ?_)
  have hr_1 : (r_1.toInt = 1 ∧ 0 ≤ a.toInt ∧ a.toInt ≤ 63) ∨ (r_1.toInt = 0 ∧ ¬ (0 ≤ a.toInt ∧ a.toInt ≤ 63)) := hw
  refine lv_if_eq (tgt := 32) hx hb dX9_allow_7 (by decide) (fun c_2 => ?_) (fun c_2 => ?_)
  · skip
    have tc_2 : r_1.toInt = 0 := (fa_eq _ _).mp c_2
    refine lv_aload_n hx hb dX9_allow_32 rfl (lv_at hl 0 rfl) ?_
    refine lv_ldc hx hb hown (hts _ (List.mem_of_getElem? (i := 5) rfl)) dX9_allow_33 ?_
    have hPc := hP.sub (ws' := [(h0, .inr (7, [.ref a0, v1, v2, v3, v4, .ref t0, v6, v7, v8, v9, v10, v11, v12, v13, v14, v15, v16, v17, v18, v19, v20, v21, v22, v23, v24, v25, v26, v27])), (t0, .inl (tc, 8, .inl tf))]) [0, 1] rfl
    have hKc := hK.sub (tys' := [(tc, .int)]) [0] rfl
    have hDc := hD.sub (ws' := [(h0, .inr (7, [.ref a0, v1, v2, v3, v4, .ref t0, v6, v7, v8, v9, v10, v11, v12, v13, v14, v15, v16, v17, v18, v19, v20, v21, v22, v23, v24, v25, v26, v27])), (t0, .inl (tc, 8, .inl tf))]) [0, 1] (by decide) rfl
    have hFc := va_free (wc := [(h0, .inr (7, [.ref a0, v1, v2, v3, v4, .ref t0, v6, v7, v8, v9, v10, v11, v12, v13, v14, v15, v16, v17, v18, v19, v20, v21, v22, v23, v24, v25, v26, v27])), (t0, .inl (tc, 8, .inl tf))]) hD hS hA [0, 1] rfl
    refine va_calli (va_runV (As := [.int (-1000000001)]) (rest := []) ⟨hx, hb, hml, hown, hts⟩ (mf_beyond l dC dI ad h0 (.ref a0) v1 v2 v3 v4 t0 v6 v7 v8 v9 v10 v11 v12 v13 v14 v15 v16 v17 v18 v19 v20 v21 v22 v23 v24 v25 v26 v27 tc tf s.heap.size ) (cwV 1 hts g_m_allow_mf_beyond_84 rfl rfl rfl (by decide +kernel) ⟨(Nat.le_of_ble_eq_true rfl), (Nat.le_of_ble_eq_true rfl)⟩) ⟨preM_blind, va_recv hKc hPc (ci := 7) (q0 := 0) rfl rfl, fun U hU hW => ⟨rfl, preM_at hU hW hPc hKc hDc hev⟩⟩ rfl rfl hl.1 rfl (lv_room (Nat.le_of_ble_eq_true rfl)) dX9_allow_35 ⟨(Nat.le_of_ble_eq_true rfl), (Nat.le_of_ble_eq_true rfl)⟩) hS (fun q _ h => hFc q h) hFc (fun r_3 u t H1 locs ht hvm hw hB hz1 hk1 hS => ?_)
    obtain ⟨tg_4, hP1, hK1, hD1⟩ := hB
    rw [ht] at hP1
    have hK1 := va_K.moved hvm.symm hK1
    obtain ⟨hP, hD⟩ := va_join (wr := [(a0, .inl (ac, 38, .inl nf))]) (w1 := [(h0, .inr (7, [.ref a0, v1, v2, v3, v4, .ref t0, v6, v7, v8, v9, v10, v11, v12, v13, v14, v15, v16, v17, v18, v19, v20, v21, v22, v23, v24, v25, v26, v27])), (t0, .inl (tc, 8, .inl tg_4))]) hP hD [0, 1] [2] rfl rfl (by decide) (by decide) hk1 hFc hP1 hD1
    generalize H1 = H at hP hS ⊢
    have hP : va_P (dC, dI) vwCl [(a0, .inl (ac, 38, .inl nf)), (h0, .inr (7, [.ref a0, v1, v2, v3, v4, .ref t0, v6, v7, v8, v9, v10, v11, v12, v13, v14, v15, v16, v17, v18, v19, v20, v21, v22, v23, v24, v25, v26, v27])), (t0, .inl (tc, 8, .inl tg_4))] H := hP
    have hD : va_D A [(a0, .inl (ac, 38, .inl nf)), (h0, .inr (7, [.ref a0, v1, v2, v3, v4, .ref t0, v6, v7, v8, v9, v10, v11, v12, v13, v14, v15, v16, v17, v18, v19, v20, v21, v22, v23, v24, v25, v26, v27])), (t0, .inl (tc, 8, .inl tg_4))] := hD
    subst hw
    have hP9 := hP.sub (ws' := [(h0, .inr (7, [.ref a0, v1, v2, v3, v4, .ref t0, v6, v7, v8, v9, v10, v11, v12, v13, v14, v15, v16, v17, v18, v19, v20, v21, v22, v23, v24, v25, v26, v27])), (t0, .inl (tc, 8, .inl tg_4)), (a0, .inl (ac, 38, .inl nf))]) [1, 2, 0] rfl
    have hD9 := hD.sub (ws' := [(h0, .inr (7, [.ref a0, v1, v2, v3, v4, .ref t0, v6, v7, v8, v9, v10, v11, v12, v13, v14, v15, v16, v17, v18, v19, v20, v21, v22, v23, v24, v25, v26, v27])), (t0, .inl (tc, 8, .inl tg_4)), (a0, .inl (ac, 38, .inl nf))]) [1, 2, 0] (by decide) rfl
    have hK9 := hK.sub (tys' := [(tc, .int), (ac, .int)]) [0, 1] rfl
    exact W.iret (v := ((-1000000001) : Int32)) hx hb hr (fun t ht hW => ⟨⟨((-1000000001) : Int32), (), rfl, (by first | omega | decide | (simp only [fa_lt, fa_le, fa_eq, and_true, true_and, and_false, false_and, not_true_eq_false, not_false_eq_true, li_0, li_1, li_2, li_3, li_4, li_5, li_6, li_7, li_8, li_9, li_10, li_12, li_15, li_16, li_20, li_30, li_34, li_38, li_40, li_63, li_64, li_65, li_78, li_120, li_1000, li_4000, li_10000, li_11077, li_255, li_65535, li_m1, li_m2, li_m1000000001, li_m1000000002, li_m1000000003, li_m1000000004, li_m1000000005, li_m1000000006, li_m1000000007, or_true, true_or, or_false, false_or, implies_true, true_implies, false_implies] <;> omega)), tg_4, nf, hI, (by first | omega | decide | (simp only [fa_lt, fa_le, fa_eq, and_true, true_and, and_false, false_and, not_true_eq_false, not_false_eq_true, li_0, li_1, li_2, li_3, li_4, li_5, li_6, li_7, li_8, li_9, li_10, li_12, li_15, li_16, li_20, li_30, li_34, li_38, li_40, li_63, li_64, li_65, li_78, li_120, li_1000, li_4000, li_10000, li_11077, li_255, li_65535, li_m1, li_m2, li_m1000000001, li_m1000000002, li_m1000000003, li_m1000000004, li_m1000000005, li_m1000000006, li_m1000000007, or_true, true_or, or_false, false_or, implies_true, true_implies, false_implies] <;> omega)), by rw [ht]; exact hP9, va_K.moved hW.alike hK9, hD9⟩, hS.F ht⟩) hS.2.2 dX9_allow_38
  · skip
    have tc_2 : ¬ r_1.toInt = 0 := fun h => c_2 ((fa_eq _ _).mpr h)
    have i_5 : 0 ≤ a.toInt ∧ a.toInt ≤ 63 := by omega
    refine lv_iload_n hx hb dX9_allow_10 rfl (lv_at hl 1 rfl) ?_
    refine lv_bipush (v := 15) hx hb dX9_allow_11 (by decide) ?_
    refine lv_iand hx hb dX9_allow_13 ?_
    refine lv_topi (fun n_6 en_6 => ?_)
    have tn_6 : n_6.toInt = (a &&& 15).toInt ∧ 0 ≤ (a &&& 15).toInt := ⟨by rw [en_6], (fa_le _ _).mp (pp_and15 a)⟩
    clear en_6
    refine lv_if_le (tgt := 32) hx hb dX9_allow_14 (by decide) (fun c_7 => ?_) (fun c_7 => ?_)
    · skip
      have tc_7 : n_6.toInt ≤ 0 := (fa_le _ _).mp c_7
      refine lv_aload_n hx hb dX9_allow_32 rfl (lv_at hl 0 rfl) ?_
      refine lv_ldc hx hb hown (hts _ (List.mem_of_getElem? (i := 5) rfl)) dX9_allow_33 ?_
      have hPc := hP.sub (ws' := [(h0, .inr (7, [.ref a0, v1, v2, v3, v4, .ref t0, v6, v7, v8, v9, v10, v11, v12, v13, v14, v15, v16, v17, v18, v19, v20, v21, v22, v23, v24, v25, v26, v27])), (t0, .inl (tc, 8, .inl tf))]) [0, 1] rfl
      have hKc := hK.sub (tys' := [(tc, .int)]) [0] rfl
      have hDc := hD.sub (ws' := [(h0, .inr (7, [.ref a0, v1, v2, v3, v4, .ref t0, v6, v7, v8, v9, v10, v11, v12, v13, v14, v15, v16, v17, v18, v19, v20, v21, v22, v23, v24, v25, v26, v27])), (t0, .inl (tc, 8, .inl tf))]) [0, 1] (by decide) rfl
      have hFc := va_free (wc := [(h0, .inr (7, [.ref a0, v1, v2, v3, v4, .ref t0, v6, v7, v8, v9, v10, v11, v12, v13, v14, v15, v16, v17, v18, v19, v20, v21, v22, v23, v24, v25, v26, v27])), (t0, .inl (tc, 8, .inl tf))]) hD hS hA [0, 1] rfl
      refine va_calli (va_runV (As := [.int (-1000000001)]) (rest := []) ⟨hx, hb, hml, hown, hts⟩ (mf_beyond l dC dI ad h0 (.ref a0) v1 v2 v3 v4 t0 v6 v7 v8 v9 v10 v11 v12 v13 v14 v15 v16 v17 v18 v19 v20 v21 v22 v23 v24 v25 v26 v27 tc tf s.heap.size ) (cwV 1 hts g_m_allow_mf_beyond_84 rfl rfl rfl (by decide +kernel) ⟨(Nat.le_of_ble_eq_true rfl), (Nat.le_of_ble_eq_true rfl)⟩) ⟨preM_blind, va_recv hKc hPc (ci := 7) (q0 := 0) rfl rfl, fun U hU hW => ⟨rfl, preM_at hU hW hPc hKc hDc hev⟩⟩ rfl rfl hl.1 rfl (lv_room (Nat.le_of_ble_eq_true rfl)) dX9_allow_35 ⟨(Nat.le_of_ble_eq_true rfl), (Nat.le_of_ble_eq_true rfl)⟩) hS (fun q _ h => hFc q h) hFc (fun r_8 u t H1 locs ht hvm hw hB hz1 hk1 hS => ?_)
      obtain ⟨tg_9, hP1, hK1, hD1⟩ := hB
      rw [ht] at hP1
      have hK1 := va_K.moved hvm.symm hK1
      obtain ⟨hP, hD⟩ := va_join (wr := [(a0, .inl (ac, 38, .inl nf))]) (w1 := [(h0, .inr (7, [.ref a0, v1, v2, v3, v4, .ref t0, v6, v7, v8, v9, v10, v11, v12, v13, v14, v15, v16, v17, v18, v19, v20, v21, v22, v23, v24, v25, v26, v27])), (t0, .inl (tc, 8, .inl tg_9))]) hP hD [0, 1] [2] rfl rfl (by decide) (by decide) hk1 hFc hP1 hD1
      generalize H1 = H at hP hS ⊢
      have hP : va_P (dC, dI) vwCl [(a0, .inl (ac, 38, .inl nf)), (h0, .inr (7, [.ref a0, v1, v2, v3, v4, .ref t0, v6, v7, v8, v9, v10, v11, v12, v13, v14, v15, v16, v17, v18, v19, v20, v21, v22, v23, v24, v25, v26, v27])), (t0, .inl (tc, 8, .inl tg_9))] H := hP
      have hD : va_D A [(a0, .inl (ac, 38, .inl nf)), (h0, .inr (7, [.ref a0, v1, v2, v3, v4, .ref t0, v6, v7, v8, v9, v10, v11, v12, v13, v14, v15, v16, v17, v18, v19, v20, v21, v22, v23, v24, v25, v26, v27])), (t0, .inl (tc, 8, .inl tg_9))] := hD
      subst hw
      have hP9 := hP.sub (ws' := [(h0, .inr (7, [.ref a0, v1, v2, v3, v4, .ref t0, v6, v7, v8, v9, v10, v11, v12, v13, v14, v15, v16, v17, v18, v19, v20, v21, v22, v23, v24, v25, v26, v27])), (t0, .inl (tc, 8, .inl tg_9)), (a0, .inl (ac, 38, .inl nf))]) [1, 2, 0] rfl
      have hD9 := hD.sub (ws' := [(h0, .inr (7, [.ref a0, v1, v2, v3, v4, .ref t0, v6, v7, v8, v9, v10, v11, v12, v13, v14, v15, v16, v17, v18, v19, v20, v21, v22, v23, v24, v25, v26, v27])), (t0, .inl (tc, 8, .inl tg_9)), (a0, .inl (ac, 38, .inl nf))]) [1, 2, 0] (by decide) rfl
      have hK9 := hK.sub (tys' := [(tc, .int), (ac, .int)]) [0, 1] rfl
      exact W.iret (v := ((-1000000001) : Int32)) hx hb hr (fun t ht hW => ⟨⟨((-1000000001) : Int32), (), rfl, (by first | omega | decide | (simp only [fa_lt, fa_le, fa_eq, and_true, true_and, and_false, false_and, not_true_eq_false, not_false_eq_true, li_0, li_1, li_2, li_3, li_4, li_5, li_6, li_7, li_8, li_9, li_10, li_12, li_15, li_16, li_20, li_30, li_34, li_38, li_40, li_63, li_64, li_65, li_78, li_120, li_1000, li_4000, li_10000, li_11077, li_255, li_65535, li_m1, li_m2, li_m1000000001, li_m1000000002, li_m1000000003, li_m1000000004, li_m1000000005, li_m1000000006, li_m1000000007, or_true, true_or, or_false, false_or, implies_true, true_implies, false_implies] <;> omega)), tg_9, nf, hI, (by first | omega | decide | (simp only [fa_lt, fa_le, fa_eq, and_true, true_and, and_false, false_and, not_true_eq_false, not_false_eq_true, li_0, li_1, li_2, li_3, li_4, li_5, li_6, li_7, li_8, li_9, li_10, li_12, li_15, li_16, li_20, li_30, li_34, li_38, li_40, li_63, li_64, li_65, li_78, li_120, li_1000, li_4000, li_10000, li_11077, li_255, li_65535, li_m1, li_m2, li_m1000000001, li_m1000000002, li_m1000000003, li_m1000000004, li_m1000000005, li_m1000000006, li_m1000000007, or_true, true_or, or_false, false_or, implies_true, true_implies, false_implies] <;> omega)), by rw [ht]; exact hP9, va_K.moved hW.alike hK9, hD9⟩, hS.F ht⟩) hS.2.2 dX9_allow_38
    · skip
      have tc_7 : ¬ n_6.toInt ≤ 0 := fun h => c_7 ((fa_le _ _).mpr h)
      refine lv_iload_n hx hb dX9_allow_17 rfl (lv_at hl 1 rfl) ?_
      refine lv_bipush (v := 15) hx hb dX9_allow_18 (by decide) ?_
      refine lv_icmp_le (tgt := 32) hx hb dX9_allow_20 (by decide) (fun c_10 => ?_) (fun c_10 => ?_)
      · skip
        have tc_10 : a.toInt ≤ 15 := (fa_le _ _).mp c_10
        refine lv_aload_n hx hb dX9_allow_32 rfl (lv_at hl 0 rfl) ?_
        refine lv_ldc hx hb hown (hts _ (List.mem_of_getElem? (i := 5) rfl)) dX9_allow_33 ?_
        have hPc := hP.sub (ws' := [(h0, .inr (7, [.ref a0, v1, v2, v3, v4, .ref t0, v6, v7, v8, v9, v10, v11, v12, v13, v14, v15, v16, v17, v18, v19, v20, v21, v22, v23, v24, v25, v26, v27])), (t0, .inl (tc, 8, .inl tf))]) [0, 1] rfl
        have hKc := hK.sub (tys' := [(tc, .int)]) [0] rfl
        have hDc := hD.sub (ws' := [(h0, .inr (7, [.ref a0, v1, v2, v3, v4, .ref t0, v6, v7, v8, v9, v10, v11, v12, v13, v14, v15, v16, v17, v18, v19, v20, v21, v22, v23, v24, v25, v26, v27])), (t0, .inl (tc, 8, .inl tf))]) [0, 1] (by decide) rfl
        have hFc := va_free (wc := [(h0, .inr (7, [.ref a0, v1, v2, v3, v4, .ref t0, v6, v7, v8, v9, v10, v11, v12, v13, v14, v15, v16, v17, v18, v19, v20, v21, v22, v23, v24, v25, v26, v27])), (t0, .inl (tc, 8, .inl tf))]) hD hS hA [0, 1] rfl
        refine va_calli (va_runV (As := [.int (-1000000001)]) (rest := []) ⟨hx, hb, hml, hown, hts⟩ (mf_beyond l dC dI ad h0 (.ref a0) v1 v2 v3 v4 t0 v6 v7 v8 v9 v10 v11 v12 v13 v14 v15 v16 v17 v18 v19 v20 v21 v22 v23 v24 v25 v26 v27 tc tf s.heap.size ) (cwV 1 hts g_m_allow_mf_beyond_84 rfl rfl rfl (by decide +kernel) ⟨(Nat.le_of_ble_eq_true rfl), (Nat.le_of_ble_eq_true rfl)⟩) ⟨preM_blind, va_recv hKc hPc (ci := 7) (q0 := 0) rfl rfl, fun U hU hW => ⟨rfl, preM_at hU hW hPc hKc hDc hev⟩⟩ rfl rfl hl.1 rfl (lv_room (Nat.le_of_ble_eq_true rfl)) dX9_allow_35 ⟨(Nat.le_of_ble_eq_true rfl), (Nat.le_of_ble_eq_true rfl)⟩) hS (fun q _ h => hFc q h) hFc (fun r_11 u t H1 locs ht hvm hw hB hz1 hk1 hS => ?_)
        obtain ⟨tg_12, hP1, hK1, hD1⟩ := hB
        rw [ht] at hP1
        have hK1 := va_K.moved hvm.symm hK1
        obtain ⟨hP, hD⟩ := va_join (wr := [(a0, .inl (ac, 38, .inl nf))]) (w1 := [(h0, .inr (7, [.ref a0, v1, v2, v3, v4, .ref t0, v6, v7, v8, v9, v10, v11, v12, v13, v14, v15, v16, v17, v18, v19, v20, v21, v22, v23, v24, v25, v26, v27])), (t0, .inl (tc, 8, .inl tg_12))]) hP hD [0, 1] [2] rfl rfl (by decide) (by decide) hk1 hFc hP1 hD1
        generalize H1 = H at hP hS ⊢
        have hP : va_P (dC, dI) vwCl [(a0, .inl (ac, 38, .inl nf)), (h0, .inr (7, [.ref a0, v1, v2, v3, v4, .ref t0, v6, v7, v8, v9, v10, v11, v12, v13, v14, v15, v16, v17, v18, v19, v20, v21, v22, v23, v24, v25, v26, v27])), (t0, .inl (tc, 8, .inl tg_12))] H := hP
        have hD : va_D A [(a0, .inl (ac, 38, .inl nf)), (h0, .inr (7, [.ref a0, v1, v2, v3, v4, .ref t0, v6, v7, v8, v9, v10, v11, v12, v13, v14, v15, v16, v17, v18, v19, v20, v21, v22, v23, v24, v25, v26, v27])), (t0, .inl (tc, 8, .inl tg_12))] := hD
        subst hw
        have hP9 := hP.sub (ws' := [(h0, .inr (7, [.ref a0, v1, v2, v3, v4, .ref t0, v6, v7, v8, v9, v10, v11, v12, v13, v14, v15, v16, v17, v18, v19, v20, v21, v22, v23, v24, v25, v26, v27])), (t0, .inl (tc, 8, .inl tg_12)), (a0, .inl (ac, 38, .inl nf))]) [1, 2, 0] rfl
        have hD9 := hD.sub (ws' := [(h0, .inr (7, [.ref a0, v1, v2, v3, v4, .ref t0, v6, v7, v8, v9, v10, v11, v12, v13, v14, v15, v16, v17, v18, v19, v20, v21, v22, v23, v24, v25, v26, v27])), (t0, .inl (tc, 8, .inl tg_12)), (a0, .inl (ac, 38, .inl nf))]) [1, 2, 0] (by decide) rfl
        have hK9 := hK.sub (tys' := [(tc, .int), (ac, .int)]) [0, 1] rfl
        exact W.iret (v := ((-1000000001) : Int32)) hx hb hr (fun t ht hW => ⟨⟨((-1000000001) : Int32), (), rfl, (by first | omega | decide | (simp only [fa_lt, fa_le, fa_eq, and_true, true_and, and_false, false_and, not_true_eq_false, not_false_eq_true, li_0, li_1, li_2, li_3, li_4, li_5, li_6, li_7, li_8, li_9, li_10, li_12, li_15, li_16, li_20, li_30, li_34, li_38, li_40, li_63, li_64, li_65, li_78, li_120, li_1000, li_4000, li_10000, li_11077, li_255, li_65535, li_m1, li_m2, li_m1000000001, li_m1000000002, li_m1000000003, li_m1000000004, li_m1000000005, li_m1000000006, li_m1000000007, or_true, true_or, or_false, false_or, implies_true, true_implies, false_implies] <;> omega)), tg_12, nf, hI, (by first | omega | decide | (simp only [fa_lt, fa_le, fa_eq, and_true, true_and, and_false, false_and, not_true_eq_false, not_false_eq_true, li_0, li_1, li_2, li_3, li_4, li_5, li_6, li_7, li_8, li_9, li_10, li_12, li_15, li_16, li_20, li_30, li_34, li_38, li_40, li_63, li_64, li_65, li_78, li_120, li_1000, li_4000, li_10000, li_11077, li_255, li_65535, li_m1, li_m2, li_m1000000001, li_m1000000002, li_m1000000003, li_m1000000004, li_m1000000005, li_m1000000006, li_m1000000007, or_true, true_or, or_false, false_or, implies_true, true_implies, false_implies] <;> omega)), by rw [ht]; exact hP9, va_K.moved hW.alike hK9, hD9⟩, hS.F ht⟩) hS.2.2 dX9_allow_38
      · skip
        have tc_10 : ¬ a.toInt ≤ 15 := fun h => c_10 ((fa_le _ _).mpr h)
        refine lv_aload_n hx hb dX9_allow_23 rfl (lv_at hl 0 rfl) ?_
        refine lv_iconst (v := 2) hx hb dX9_allow_24 (by decide) ?_
        refine lv_iload_n hx hb dX9_allow_25 rfl (lv_at hl 1 rfl) ?_
        have hPc := hP.sub (ws' := [(h0, .inr (7, [.ref a0, v1, v2, v3, v4, .ref t0, v6, v7, v8, v9, v10, v11, v12, v13, v14, v15, v16, v17, v18, v19, v20, v21, v22, v23, v24, v25, v26, v27])), (a0, .inl (ac, 38, .inl nf))]) [0, 2] rfl
        have hKc := hK.sub (tys' := [(ac, .int)]) [1] rfl
        have hDc := hD.sub (ws' := [(h0, .inr (7, [.ref a0, v1, v2, v3, v4, .ref t0, v6, v7, v8, v9, v10, v11, v12, v13, v14, v15, v16, v17, v18, v19, v20, v21, v22, v23, v24, v25, v26, v27])), (a0, .inl (ac, 38, .inl nf))]) [0, 2] (by decide) rfl
        have hFc := va_free (wc := [(h0, .inr (7, [.ref a0, v1, v2, v3, v4, .ref t0, v6, v7, v8, v9, v10, v11, v12, v13, v14, v15, v16, v17, v18, v19, v20, v21, v22, v23, v24, v25, v26, v27])), (a0, .inl (ac, 38, .inl nf))]) hD hS hA [0, 2] rfl
        refine va_calli (va_runV (As := [.int 2, .int a]) (rest := []) ⟨hx, hb, hml, hown, hts⟩ (m_putIn2 l dC dI ad h0 a a0 v1 v2 v3 v4 (.ref t0) v6 v7 v8 v9 v10 v11 v12 v13 v14 v15 v16 v17 v18 v19 v20 v21 v22 v23 v24 v25 v26 v27 ac nf s.heap.size hI) (cwV 2 hts g_m_allow_m_putIn2_102 rfl rfl rfl (by decide +kernel) ⟨(Nat.le_of_ble_eq_true rfl), (Nat.le_of_ble_eq_true rfl)⟩) ⟨preM_blind, va_recv hKc hPc (ci := 7) (q0 := 0) rfl rfl, fun U hU hW => ⟨rfl, preM_at hU hW hPc hKc hDc hev⟩⟩ rfl rfl hl.1 rfl (lv_room (Nat.le_of_ble_eq_true rfl)) dX9_allow_26 ⟨(Nat.le_of_ble_eq_true rfl), (Nat.le_of_ble_eq_true rfl)⟩) hS (fun q _ h => hFc q h) hFc (fun r_13 u t H1 locs ht hvm hw hB hz1 hk1 hS => ?_)
        obtain ⟨ng_14, hq_15, hq_16, hq_17, hP1, hK1, hD1⟩ := hB
        rw [ht] at hP1
        have hK1 := va_K.moved hvm.symm hK1
        obtain ⟨hP, hD⟩ := va_join (wr := [(t0, .inl (tc, 8, .inl tf))]) (w1 := [(h0, .inr (7, [.ref a0, v1, v2, v3, v4, .ref t0, v6, v7, v8, v9, v10, v11, v12, v13, v14, v15, v16, v17, v18, v19, v20, v21, v22, v23, v24, v25, v26, v27])), (a0, .inl (ac, 38, .inl ng_14))]) hP hD [0, 2] [1] rfl rfl (by decide) (by decide) hk1 hFc hP1 hD1
        generalize H1 = H at hP hS ⊢
        have hP : va_P (dC, dI) vwCl [(t0, .inl (tc, 8, .inl tf)), (h0, .inr (7, [.ref a0, v1, v2, v3, v4, .ref t0, v6, v7, v8, v9, v10, v11, v12, v13, v14, v15, v16, v17, v18, v19, v20, v21, v22, v23, v24, v25, v26, v27])), (a0, .inl (ac, 38, .inl ng_14))] H := hP
        have hD : va_D A [(t0, .inl (tc, 8, .inl tf)), (h0, .inr (7, [.ref a0, v1, v2, v3, v4, .ref t0, v6, v7, v8, v9, v10, v11, v12, v13, v14, v15, v16, v17, v18, v19, v20, v21, v22, v23, v24, v25, v26, v27])), (a0, .inl (ac, 38, .inl ng_14))] := hD
        have hr_13 : r_13.toInt = (nf 2).toInt := hw
        refine lv_goto (tgt := 38) hx hb dX9_allow_29 (by decide) ?_
        have hP9 := hP.sub (ws' := [(h0, .inr (7, [.ref a0, v1, v2, v3, v4, .ref t0, v6, v7, v8, v9, v10, v11, v12, v13, v14, v15, v16, v17, v18, v19, v20, v21, v22, v23, v24, v25, v26, v27])), (t0, .inl (tc, 8, .inl tf)), (a0, .inl (ac, 38, .inl ng_14))]) [1, 0, 2] rfl
        have hD9 := hD.sub (ws' := [(h0, .inr (7, [.ref a0, v1, v2, v3, v4, .ref t0, v6, v7, v8, v9, v10, v11, v12, v13, v14, v15, v16, v17, v18, v19, v20, v21, v22, v23, v24, v25, v26, v27])), (t0, .inl (tc, 8, .inl tf)), (a0, .inl (ac, 38, .inl ng_14))]) [1, 0, 2] (by decide) rfl
        have hK9 := hK.sub (tys' := [(tc, .int), (ac, .int)]) [0, 1] rfl
        exact W.iret (v := r_13) hx hb hr (fun t ht hW => ⟨⟨r_13, (), rfl, (by first | omega | decide | (simp only [fa_lt, fa_le, fa_eq, and_true, true_and, and_false, false_and, not_true_eq_false, not_false_eq_true, li_0, li_1, li_2, li_3, li_4, li_5, li_6, li_7, li_8, li_9, li_10, li_12, li_15, li_16, li_20, li_30, li_34, li_38, li_40, li_63, li_64, li_65, li_78, li_120, li_1000, li_4000, li_10000, li_11077, li_255, li_65535, li_m1, li_m2, li_m1000000001, li_m1000000002, li_m1000000003, li_m1000000004, li_m1000000005, li_m1000000006, li_m1000000007, or_true, true_or, or_false, false_or, implies_true, true_implies, false_implies] <;> omega)), tf, ng_14, hq_15, (by first | omega | decide | (simp only [fa_lt, fa_le, fa_eq, and_true, true_and, and_false, false_and, not_true_eq_false, not_false_eq_true, li_0, li_1, li_2, li_3, li_4, li_5, li_6, li_7, li_8, li_9, li_10, li_12, li_15, li_16, li_20, li_30, li_34, li_38, li_40, li_63, li_64, li_65, li_78, li_120, li_1000, li_4000, li_10000, li_11077, li_255, li_65535, li_m1, li_m2, li_m1000000001, li_m1000000002, li_m1000000003, li_m1000000004, li_m1000000005, li_m1000000006, li_m1000000007, or_true, true_or, or_false, false_or, implies_true, true_implies, false_implies] <;> omega)), by rw [ht]; exact hP9, va_K.moved hW.alike hK9, hD9⟩, hS.F ht⟩) hS.2.2 dX9_allow_38

def w_m_isAllowed : List Cond := .code yX9_isAllowed cX9_isAllowed 2 (some .boolean) :: (([.methodLink RX9 126 yX9_isPlacing, .static yX9_isPlacing, .initialized RX9, .code yX9_isPlacing cX9_isPlacing 1 (some .boolean), .methodLink RX9 75 yX9_within, .static yX9_within, .code yX9_within cX9_within 3 (some .boolean), .fieldLink RX9 9 "LampShapesModel" "now" "[I"] : List Cond) ++ wsX90)
set_option maxRecDepth 20000 in
theorem g_m_isAllowed_m_isPlacing_126 : GoodIn w_m_isAllowed (va_wsS RX9 126 yX9_isPlacing w_m_isPlacing) := goodIn_r _ [1, 2, 3, 4, 5, 6, 3, 7] rfl (by decide +kernel)
set_option maxHeartbeats 4000000 in
set_option maxRecDepth 100000 in
theorem m_isAllowed (l : Launch) (dC : Nat → ClassId) (dI : Nat → Nat → Nat) (ad : Nat → Nat) (h0 : Nat) (k : Int32) (a0 : Nat) (v1 : Value) (v2 : Value) (v3 : Value) (v4 : Value) (v5 : Value) (v6 : Value) (v7 : Value) (v8 : Value) (v9 : Value) (v10 : Value) (v11 : Value) (v12 : Value) (v13 : Value) (v14 : Value) (v15 : Value) (v16 : Value) (v17 : Value) (v18 : Value) (v19 : Value) (v20 : Value) (v21 : Value) (v22 : Value) (v23 : Value) (v24 : Value) (v25 : Value) (v26 : Value) (v27 : Value) (ac : ClassId) (nf : Nat → Int32) : Met l yX9_isAllowed w_m_isAllowed ({ frames := 2, cells := 0, slots := 0, locals := 42 } : Room) (va_Pc [.ref h0, .int k] (preS dC dI ad [(ac, .int)] [(h0, .inr (7, [.ref a0, v1, v2, v3, v4, v5, v6, v7, v8, v9, v10, v11, v12, v13, v14, v15, v16, v17, v18, v19, v20, v21, v22, v23, v24, v25, v26, v27])), (a0, .inl (ac, 38, .inl nf))])) (vp_Si (fun r => True)) 0 0 (fun _ => False) := by
  refine Met.ofW (cc := cX9_isAllowed) (maxL := 2) (ret := (some .boolean)) (by decide) rfl ?_
  intro p e s m args below meth c s₁ B hml hv
  obtain ⟨rfl, hP, hK, hev⟩ := hv
  have hx := B.exec
  have hb := B.bytes
  have hr := B.returns
  have hts := atoms_spec (ws := w_m_isAllowed) B.pre
  have hown : s.vm.findClass RX9 = some m.cls := findClass_of_methodNamed B.named
  have hlocks := B.notSynchronized
  have inX9 : ∀ w ∈ wsX90, w ∈ w_m_isAllowed := fun w h => List.mem_cons_of_mem _ (List.mem_append_right _ h)
  have hP : va_P (dC, dI) vwCl [(h0, .inr (7, [.ref a0, v1, v2, v3, v4, v5, v6, v7, v8, v9, v10, v11, v12, v13, v14, v15, v16, v17, v18, v19, v20, v21, v22, v23, v24, v25, v26, v27])), (a0, .inl (ac, 38, .inl nf))] s.heap := hP
  have hl := lv_entry ([.ref h0, .int k]) (n := 2) (Nat.le_of_ble_eq_true rfl)
  rw [lg_entry_eq]
  generalize (lg_sl ([.ref h0, .int k]) ++ List.replicate (2 - (lg_sl ([.ref h0, .int k])).length) Slot.unset).toArray = ls at hl ⊢
  have hl : lv_has ls 2 [(0, .ref h0), (1, .int k)] := hl
  refine lv_iload_n hx hb dX9_isAllowed_0 rfl (lv_at hl 1 rfl) ?_
  have hPc := hP.sub (ws' := []) [] rfl
  have hKc := hK.sub (tys' := []) [] rfl
  refine vp_callSi (W.runS (As := [.int k]) (rest := []) ⟨hx, hb, hml, hown, hts⟩ (m_isPlacing l dC dI ad k ) (va_cwS 1 hts g_m_isAllowed_m_isPlacing_126 rfl rfl rfl (by decide +kernel) ⟨(Nat.le_of_ble_eq_true rfl), (Nat.le_of_ble_eq_true rfl)⟩) ⟨preS_blind, fun U hU hW => ⟨rfl, preS_at hU hW hPc hKc hev⟩⟩ rfl rfl hl.1 rfl (lv_room (Nat.le_of_ble_eq_true rfl)) dX9_isAllowed_1 ⟨(Nat.le_of_ble_eq_true rfl), (Nat.le_of_ble_eq_true rfl)⟩) (fun r_1 hw => ?_)
  refine lv_if_eq (tgt := 51) hx hb dX9_isAllowed_4 (by decide) (fun c_2 => ?_) (fun c_2 => ?_)
  · skip
    have tc_2 : r_1.toInt = 0 := (fa_eq _ _).mp c_2
    refine lv_iconst (v := 0) hx hb dX9_isAllowed_51 (by decide) ?_
    exact W.zret (v := (0 : Int32)) hx hb hr (by decide) (fun t ht hW => ⟨(0 : Int32), rfl, trivial, ht⟩) (fun _ h => absurd h List.not_mem_nil) dX9_isAllowed_52
  · skip
    have tc_2 : ¬ r_1.toInt = 0 := fun h => c_2 ((fa_eq _ _).mpr h)
    refine lv_aload_n hx hb dX9_isAllowed_7 rfl (lv_at hl 0 rfl) ?_
    refine va_get (D := (dC, dI)) (ci := 7) (v := .ref a0) (C := RX9) (T := TX9) (N := 28) hx hb hts inX9 hown hK hP 0 rfl rfl 0 (by decide) (hts _ (List.mem_of_getElem? (i := 8) rfl)) (fun _ h9 => h9) rfl dX9_isAllowed_8 ?_
    refine lv_iconst (v := 2) hx hb dX9_isAllowed_11 (by decide) ?_
    refine va_iald hx hb hK hP 1 0 rfl rfl (vp_in_nI (n := 2) (by decide) (by decide)) dX9_isAllowed_12 ?_
    refine pp_ti (y := nf 2) rfl ?_
    refine lv_topi (fun n_3 en_3 => ?_)
    have tn_3 : n_3.toInt = (nf 2).toInt := congrArg Int32.toInt en_3
    clear en_3
    refine lv_iload_n hx hb dX9_isAllowed_13 rfl (lv_at hl 1 rfl) ?_
    refine lv_sipush (v := 1000) hx hb dX9_isAllowed_14 (by decide) ?_
    refine lv_idiv hx hb dX9_isAllowed_17 (by decide) ?_
    refine lv_topi (fun n_4 en_4 => ?_)
    clear en_4
    refine lv_iconst (v := 4) hx hb dX9_isAllowed_18 (by decide) ?_
    refine lv_irem hx hb dX9_isAllowed_19 (by decide) ?_
    refine lv_topi (fun n_5 en_5 => ?_)
    clear en_5
    refine lv_ishr hx hb dX9_isAllowed_20 ?_
    refine lv_topi (fun n_6 en_6 => ?_)
    clear en_6
    refine lv_iconst (v := 1) hx hb dX9_isAllowed_21 (by decide) ?_
    refine lv_iand hx hb dX9_isAllowed_22 ?_
    refine lv_topi (fun n_7 en_7 => ?_)
    clear en_7
    refine lv_iconst (v := 1) hx hb dX9_isAllowed_23 (by decide) ?_
    refine lv_icmp_ne (tgt := 51) hx hb dX9_isAllowed_24 (by decide) (fun c_8 => ?_) (fun c_8 => ?_)
    · skip
      have tc_8 : ¬ n_7.toInt = 1 := fun h => c_8 ((fa_eq _ _).mpr h)
      refine lv_iconst (v := 0) hx hb dX9_isAllowed_51 (by decide) ?_
      exact W.zret (v := (0 : Int32)) hx hb hr (by decide) (fun t ht hW => ⟨(0 : Int32), rfl, trivial, ht⟩) (fun _ h => absurd h List.not_mem_nil) dX9_isAllowed_52
    · skip
      have tc_8 : n_7.toInt = 1 := (fa_eq _ _).mp c_8
      refine lv_aload_n hx hb dX9_isAllowed_27 rfl (lv_at hl 0 rfl) ?_
      refine va_get (D := (dC, dI)) (ci := 7) (v := .ref a0) (C := RX9) (T := TX9) (N := 28) hx hb hts inX9 hown hK hP 0 rfl rfl 0 (by decide) (hts _ (List.mem_of_getElem? (i := 8) rfl)) (fun _ h9 => h9) rfl dX9_isAllowed_28 ?_
      refine lv_iconst (v := 2) hx hb dX9_isAllowed_31 (by decide) ?_
      refine va_iald hx hb hK hP 1 0 rfl rfl (vp_in_nI (n := 2) (by decide) (by decide)) dX9_isAllowed_32 ?_
      refine pp_ti (y := nf 2) rfl ?_
      refine lv_topi (fun n_9 en_9 => ?_)
      have tn_9 : n_9.toInt = (nf 2).toInt := congrArg Int32.toInt en_9
      clear en_9
      refine lv_iconst (v := 3) hx hb dX9_isAllowed_33 (by decide) ?_
      refine lv_iload_n hx hb dX9_isAllowed_34 rfl (lv_at hl 1 rfl) ?_
      refine lv_sipush (v := 4000) hx hb dX9_isAllowed_35 (by decide) ?_
      refine lv_idiv hx hb dX9_isAllowed_38 (by decide) ?_
      refine lv_topi (fun n_10 en_10 => ?_)
      clear en_10
      refine lv_iadd hx hb dX9_isAllowed_39 ?_
      refine lv_topi (fun n_11 en_11 => ?_)
      clear en_11
      refine lv_ishr hx hb dX9_isAllowed_40 ?_
      refine lv_topi (fun n_12 en_12 => ?_)
      clear en_12
      refine lv_iconst (v := 1) hx hb dX9_isAllowed_41 (by decide) ?_
      refine lv_iand hx hb dX9_isAllowed_42 ?_
      refine lv_topi (fun n_13 en_13 => ?_)
      clear en_13
      refine lv_iconst (v := 1) hx hb dX9_isAllowed_43 (by decide) ?_
      refine lv_icmp_ne (tgt := 51) hx hb dX9_isAllowed_44 (by decide) (fun c_14 => ?_) (fun c_14 => ?_)
      · skip
        have tc_14 : ¬ n_13.toInt = 1 := fun h => c_14 ((fa_eq _ _).mpr h)
        refine lv_iconst (v := 0) hx hb dX9_isAllowed_51 (by decide) ?_
        exact W.zret (v := (0 : Int32)) hx hb hr (by decide) (fun t ht hW => ⟨(0 : Int32), rfl, trivial, ht⟩) (fun _ h => absurd h List.not_mem_nil) dX9_isAllowed_52
      · skip
        have tc_14 : n_13.toInt = 1 := (fa_eq _ _).mp c_14
        refine lv_iconst (v := 1) hx hb dX9_isAllowed_47 (by decide) ?_
        refine lv_goto (tgt := 52) hx hb dX9_isAllowed_48 (by decide) ?_
        exact W.zret (v := (1 : Int32)) hx hb hr (by decide) (fun t ht hW => ⟨(1 : Int32), rfl, trivial, ht⟩) (fun _ h => absurd h List.not_mem_nil) dX9_isAllowed_52

