theorem dX6_takeAll_0 : decode cX6_takeAll 0 = .ok (.aload_n 0, 1) := by decide +kernel
theorem dX6_takeAll_1 : decode cX6_takeAll 1 = .ok (.aload_n 1, 1) := by decide +kernel
theorem dX6_takeAll_2 : decode cX6_takeAll 2 = .ok (.getfield 9, 3) := by decide +kernel
theorem dX6_takeAll_5 : decode cX6_takeAll 5 = .ok (.putfield 9, 3) := by decide +kernel
theorem dX6_takeAll_8 : decode cX6_takeAll 8 = .ok (.aload_n 1, 1) := by decide +kernel
theorem dX6_takeAll_9 : decode cX6_takeAll 9 = .ok (.getfield 15, 3) := by decide +kernel
theorem dX6_takeAll_12 : decode cX6_takeAll 12 = .ok (.iconst 0, 1) := by decide +kernel
theorem dX6_takeAll_13 : decode cX6_takeAll 13 = .ok (.aload_n 0, 1) := by decide +kernel
theorem dX6_takeAll_14 : decode cX6_takeAll 14 = .ok (.getfield 15, 3) := by decide +kernel
theorem dX6_takeAll_17 : decode cX6_takeAll 17 = .ok (.iconst 0, 1) := by decide +kernel
theorem dX6_takeAll_18 : decode cX6_takeAll 18 = .ok (.bipush 9, 2) := by decide +kernel
theorem dX6_takeAll_20 : decode cX6_takeAll 20 = .ok (.invokestatic 41, 3) := by decide +kernel
theorem dX6_takeAll_23 : decode cX6_takeAll 23 = .ok (.aload_n 1, 1) := by decide +kernel
theorem dX6_takeAll_24 : decode cX6_takeAll 24 = .ok (.getfield 19, 3) := by decide +kernel
theorem dX6_takeAll_27 : decode cX6_takeAll 27 = .ok (.iconst 0, 1) := by decide +kernel
theorem dX6_takeAll_28 : decode cX6_takeAll 28 = .ok (.aload_n 0, 1) := by decide +kernel
theorem dX6_takeAll_29 : decode cX6_takeAll 29 = .ok (.getfield 19, 3) := by decide +kernel
theorem dX6_takeAll_32 : decode cX6_takeAll 32 = .ok (.iconst 0, 1) := by decide +kernel
theorem dX6_takeAll_33 : decode cX6_takeAll 33 = .ok (.bipush 9, 2) := by decide +kernel
theorem dX6_takeAll_35 : decode cX6_takeAll 35 = .ok (.invokestatic 41, 3) := by decide +kernel
theorem dX6_takeAll_38 : decode cX6_takeAll 38 = .ok (.aload_n 0, 1) := by decide +kernel
theorem dX6_takeAll_39 : decode cX6_takeAll 39 = .ok (.aload_n 1, 1) := by decide +kernel
theorem dX6_takeAll_40 : decode cX6_takeAll 40 = .ok (.getfield 22, 3) := by decide +kernel
theorem dX6_takeAll_43 : decode cX6_takeAll 43 = .ok (.putfield 22, 3) := by decide +kernel
theorem dX6_takeAll_46 : decode cX6_takeAll 46 = .ok (.aload_n 1, 1) := by decide +kernel
theorem dX6_takeAll_47 : decode cX6_takeAll 47 = .ok (.getfield 25, 3) := by decide +kernel
theorem dX6_takeAll_50 : decode cX6_takeAll 50 = .ok (.iconst 0, 1) := by decide +kernel
theorem dX6_takeAll_51 : decode cX6_takeAll 51 = .ok (.aload_n 0, 1) := by decide +kernel
theorem dX6_takeAll_52 : decode cX6_takeAll 52 = .ok (.getfield 25, 3) := by decide +kernel
theorem dX6_takeAll_55 : decode cX6_takeAll 55 = .ok (.iconst 0, 1) := by decide +kernel
theorem dX6_takeAll_56 : decode cX6_takeAll 56 = .ok (.iconst 4, 1) := by decide +kernel
theorem dX6_takeAll_57 : decode cX6_takeAll 57 = .ok (.invokestatic 41, 3) := by decide +kernel
theorem dX6_takeAll_60 : decode cX6_takeAll 60 = .ok (.aload_n 1, 1) := by decide +kernel
theorem dX6_takeAll_61 : decode cX6_takeAll 61 = .ok (.getfield 28, 3) := by decide +kernel
theorem dX6_takeAll_64 : decode cX6_takeAll 64 = .ok (.iconst 0, 1) := by decide +kernel
theorem dX6_takeAll_65 : decode cX6_takeAll 65 = .ok (.aload_n 0, 1) := by decide +kernel
theorem dX6_takeAll_66 : decode cX6_takeAll 66 = .ok (.getfield 28, 3) := by decide +kernel
theorem dX6_takeAll_69 : decode cX6_takeAll 69 = .ok (.iconst 0, 1) := by decide +kernel
theorem dX6_takeAll_70 : decode cX6_takeAll 70 = .ok (.iconst 4, 1) := by decide +kernel
theorem dX6_takeAll_71 : decode cX6_takeAll 71 = .ok (.invokestatic 41, 3) := by decide +kernel
theorem dX6_takeAll_74 : decode cX6_takeAll 74 = .ok (.aload_n 0, 1) := by decide +kernel
theorem dX6_takeAll_75 : decode cX6_takeAll 75 = .ok (.aload_n 1, 1) := by decide +kernel
theorem dX6_takeAll_76 : decode cX6_takeAll 76 = .ok (.getfield 31, 3) := by decide +kernel
theorem dX6_takeAll_79 : decode cX6_takeAll 79 = .ok (.putfield 31, 3) := by decide +kernel
theorem dX6_takeAll_82 : decode cX6_takeAll 82 = .ok (.aload_n 1, 1) := by decide +kernel
theorem dX6_takeAll_83 : decode cX6_takeAll 83 = .ok (.getfield 34, 3) := by decide +kernel
theorem dX6_takeAll_86 : decode cX6_takeAll 86 = .ok (.iconst 0, 1) := by decide +kernel
theorem dX6_takeAll_87 : decode cX6_takeAll 87 = .ok (.aload_n 0, 1) := by decide +kernel
theorem dX6_takeAll_88 : decode cX6_takeAll 88 = .ok (.getfield 34, 3) := by decide +kernel
theorem dX6_takeAll_91 : decode cX6_takeAll 91 = .ok (.iconst 0, 1) := by decide +kernel
theorem dX6_takeAll_92 : decode cX6_takeAll 92 = .ok (.bipush 7, 2) := by decide +kernel
theorem dX6_takeAll_94 : decode cX6_takeAll 94 = .ok (.invokestatic 41, 3) := by decide +kernel
theorem dX6_takeAll_97 : decode cX6_takeAll 97 = .ok (.aload_n 0, 1) := by decide +kernel
theorem dX6_takeAll_98 : decode cX6_takeAll 98 = .ok (.aload_n 1, 1) := by decide +kernel
theorem dX6_takeAll_99 : decode cX6_takeAll 99 = .ok (.getfield 38, 3) := by decide +kernel
theorem dX6_takeAll_102 : decode cX6_takeAll 102 = .ok (.putfield 38, 3) := by decide +kernel
theorem dX6_takeAll_105 : decode cX6_takeAll 105 = .ok (.return_, 1) := by decide +kernel
theorem dX6_hasShape_0 : decode cX6_hasShape 0 = .ok (.iload_n 1, 1) := by decide +kernel
theorem dX6_hasShape_1 : decode cX6_hasShape 1 = .ok (.ifCond .lt 15, 3) := by decide +kernel
theorem dX6_hasShape_4 : decode cX6_hasShape 4 = .ok (.iload_n 1, 1) := by decide +kernel
theorem dX6_hasShape_5 : decode cX6_hasShape 5 = .ok (.aload_n 0, 1) := by decide +kernel
theorem dX6_hasShape_6 : decode cX6_hasShape 6 = .ok (.getfield 9, 3) := by decide +kernel
theorem dX6_hasShape_9 : decode cX6_hasShape 9 = .ok (.if_icmp .ge 7, 3) := by decide +kernel
theorem dX6_hasShape_12 : decode cX6_hasShape 12 = .ok (.iconst 1, 1) := by decide +kernel
theorem dX6_hasShape_13 : decode cX6_hasShape 13 = .ok (.goto 4, 3) := by decide +kernel
theorem dX6_hasShape_16 : decode cX6_hasShape 16 = .ok (.iconst 0, 1) := by decide +kernel
theorem dX6_hasShape_17 : decode cX6_hasShape 17 = .ok (.ireturn, 1) := by decide +kernel
theorem dX6_hasRoomForShape_0 : decode cX6_hasRoomForShape 0 = .ok (.aload_n 0, 1) := by decide +kernel
theorem dX6_hasRoomForShape_1 : decode cX6_hasRoomForShape 1 = .ok (.getfield 9, 3) := by decide +kernel
theorem dX6_hasRoomForShape_4 : decode cX6_hasRoomForShape 4 = .ok (.bipush 9, 2) := by decide +kernel
theorem dX6_hasRoomForShape_6 : decode cX6_hasRoomForShape 6 = .ok (.if_icmp .ge 7, 3) := by decide +kernel
theorem dX6_hasRoomForShape_9 : decode cX6_hasRoomForShape 9 = .ok (.iconst 1, 1) := by decide +kernel
theorem dX6_hasRoomForShape_10 : decode cX6_hasRoomForShape 10 = .ok (.goto 4, 3) := by decide +kernel
theorem dX6_hasRoomForShape_13 : decode cX6_hasRoomForShape 13 = .ok (.iconst 0, 1) := by decide +kernel
theorem dX6_hasRoomForShape_14 : decode cX6_hasRoomForShape 14 = .ok (.ireturn, 1) := by decide +kernel
theorem dX6_addShape_0 : decode cX6_addShape 0 = .ok (.aload_n 0, 1) := by decide +kernel
theorem dX6_addShape_1 : decode cX6_addShape 1 = .ok (.getfield 15, 3) := by decide +kernel
theorem dX6_addShape_4 : decode cX6_addShape 4 = .ok (.aload_n 0, 1) := by decide +kernel
theorem dX6_addShape_5 : decode cX6_addShape 5 = .ok (.getfield 9, 3) := by decide +kernel
theorem dX6_addShape_8 : decode cX6_addShape 8 = .ok (.iload_n 1, 1) := by decide +kernel
theorem dX6_addShape_9 : decode cX6_addShape 9 = .ok (.iastore, 1) := by decide +kernel
theorem dX6_addShape_10 : decode cX6_addShape 10 = .ok (.aload_n 0, 1) := by decide +kernel
theorem dX6_addShape_11 : decode cX6_addShape 11 = .ok (.getfield 19, 3) := by decide +kernel
theorem dX6_addShape_14 : decode cX6_addShape 14 = .ok (.aload_n 0, 1) := by decide +kernel
theorem dX6_addShape_15 : decode cX6_addShape 15 = .ok (.getfield 9, 3) := by decide +kernel
theorem dX6_addShape_18 : decode cX6_addShape 18 = .ok (.iload_n 2, 1) := by decide +kernel
theorem dX6_addShape_19 : decode cX6_addShape 19 = .ok (.iastore, 1) := by decide +kernel
theorem dX6_addShape_20 : decode cX6_addShape 20 = .ok (.aload_n 0, 1) := by decide +kernel
theorem dX6_addShape_21 : decode cX6_addShape 21 = .ok (.dup, 1) := by decide +kernel
theorem dX6_addShape_22 : decode cX6_addShape 22 = .ok (.getfield 9, 3) := by decide +kernel
theorem dX6_addShape_25 : decode cX6_addShape 25 = .ok (.iconst 1, 1) := by decide +kernel
theorem dX6_addShape_26 : decode cX6_addShape 26 = .ok (.iadd, 1) := by decide +kernel
theorem dX6_addShape_27 : decode cX6_addShape 27 = .ok (.putfield 9, 3) := by decide +kernel
theorem dX6_addShape_30 : decode cX6_addShape 30 = .ok (.aload_n 0, 1) := by decide +kernel
theorem dX6_addShape_31 : decode cX6_addShape 31 = .ok (.getfield 9, 3) := by decide +kernel
theorem dX6_addShape_34 : decode cX6_addShape 34 = .ok (.iconst 1, 1) := by decide +kernel
theorem dX6_addShape_35 : decode cX6_addShape 35 = .ok (.isub, 1) := by decide +kernel
theorem dX6_addShape_36 : decode cX6_addShape 36 = .ok (.ireturn, 1) := by decide +kernel
theorem dX6_isTorn_0 : decode cX6_isTorn 0 = .ok (.aload_n 0, 1) := by decide +kernel
theorem dX6_isTorn_1 : decode cX6_isTorn 1 = .ok (.getfield 22, 3) := by decide +kernel
theorem dX6_isTorn_4 : decode cX6_isTorn 4 = .ok (.iload_n 1, 1) := by decide +kernel
theorem dX6_isTorn_5 : decode cX6_isTorn 5 = .ok (.ishr, 1) := by decide +kernel
theorem dX6_isTorn_6 : decode cX6_isTorn 6 = .ok (.iconst 1, 1) := by decide +kernel
theorem dX6_isTorn_7 : decode cX6_isTorn 7 = .ok (.iand, 1) := by decide +kernel
theorem dX6_isTorn_8 : decode cX6_isTorn 8 = .ok (.iconst 1, 1) := by decide +kernel
theorem dX6_isTorn_9 : decode cX6_isTorn 9 = .ok (.if_icmp .ne 7, 3) := by decide +kernel
theorem dX6_isTorn_12 : decode cX6_isTorn 12 = .ok (.iconst 1, 1) := by decide +kernel
theorem dX6_isTorn_13 : decode cX6_isTorn 13 = .ok (.goto 4, 3) := by decide +kernel
theorem dX6_isTorn_16 : decode cX6_isTorn 16 = .ok (.iconst 0, 1) := by decide +kernel
theorem dX6_isTorn_17 : decode cX6_isTorn 17 = .ok (.ireturn, 1) := by decide +kernel
theorem dX6_setTorn_0 : decode cX6_setTorn 0 = .ok (.aload_n 0, 1) := by decide +kernel
theorem dX6_setTorn_1 : decode cX6_setTorn 1 = .ok (.iload_n 2, 1) := by decide +kernel
theorem dX6_setTorn_2 : decode cX6_setTorn 2 = .ok (.ifCond .eq 14, 3) := by decide +kernel
theorem dX6_setTorn_5 : decode cX6_setTorn 5 = .ok (.aload_n 0, 1) := by decide +kernel
theorem dX6_setTorn_6 : decode cX6_setTorn 6 = .ok (.getfield 22, 3) := by decide +kernel
theorem dX6_setTorn_9 : decode cX6_setTorn 9 = .ok (.iconst 1, 1) := by decide +kernel
theorem dX6_setTorn_10 : decode cX6_setTorn 10 = .ok (.iload_n 1, 1) := by decide +kernel
theorem dX6_setTorn_11 : decode cX6_setTorn 11 = .ok (.ishl, 1) := by decide +kernel
theorem dX6_setTorn_12 : decode cX6_setTorn 12 = .ok (.ior, 1) := by decide +kernel
theorem dX6_setTorn_13 : decode cX6_setTorn 13 = .ok (.goto 13, 3) := by decide +kernel
theorem dX6_setTorn_16 : decode cX6_setTorn 16 = .ok (.aload_n 0, 1) := by decide +kernel
theorem dX6_setTorn_17 : decode cX6_setTorn 17 = .ok (.getfield 22, 3) := by decide +kernel
theorem dX6_setTorn_20 : decode cX6_setTorn 20 = .ok (.iconst 1, 1) := by decide +kernel
theorem dX6_setTorn_21 : decode cX6_setTorn 21 = .ok (.iload_n 1, 1) := by decide +kernel
theorem dX6_setTorn_22 : decode cX6_setTorn 22 = .ok (.ishl, 1) := by decide +kernel
theorem dX6_setTorn_23 : decode cX6_setTorn 23 = .ok (.iconst (-1), 1) := by decide +kernel
theorem dX6_setTorn_24 : decode cX6_setTorn 24 = .ok (.ixor, 1) := by decide +kernel
theorem dX6_setTorn_25 : decode cX6_setTorn 25 = .ok (.iand, 1) := by decide +kernel
theorem dX6_setTorn_26 : decode cX6_setTorn 26 = .ok (.putfield 22, 3) := by decide +kernel
theorem dX6_setTorn_29 : decode cX6_setTorn 29 = .ok (.return_, 1) := by decide +kernel
theorem dX6_wholeShapes_0 : decode cX6_wholeShapes 0 = .ok (.iconst 1, 1) := by decide +kernel
theorem dX6_wholeShapes_1 : decode cX6_wholeShapes 1 = .ok (.aload_n 0, 1) := by decide +kernel
theorem dX6_wholeShapes_2 : decode cX6_wholeShapes 2 = .ok (.getfield 9, 3) := by decide +kernel
theorem dX6_wholeShapes_5 : decode cX6_wholeShapes 5 = .ok (.ishl, 1) := by decide +kernel
theorem dX6_wholeShapes_6 : decode cX6_wholeShapes 6 = .ok (.iconst 1, 1) := by decide +kernel
theorem dX6_wholeShapes_7 : decode cX6_wholeShapes 7 = .ok (.isub, 1) := by decide +kernel
theorem dX6_wholeShapes_8 : decode cX6_wholeShapes 8 = .ok (.aload_n 0, 1) := by decide +kernel
theorem dX6_wholeShapes_9 : decode cX6_wholeShapes 9 = .ok (.getfield 22, 3) := by decide +kernel
theorem dX6_wholeShapes_12 : decode cX6_wholeShapes 12 = .ok (.iconst (-1), 1) := by decide +kernel
theorem dX6_wholeShapes_13 : decode cX6_wholeShapes 13 = .ok (.ixor, 1) := by decide +kernel
theorem dX6_wholeShapes_14 : decode cX6_wholeShapes 14 = .ok (.iand, 1) := by decide +kernel
theorem dX6_wholeShapes_15 : decode cX6_wholeShapes 15 = .ok (.ireturn, 1) := by decide +kernel
theorem dX6_cornerBy_0 : decode cX6_cornerBy 0 = .ok (.aload_n 0, 1) := by decide +kernel
theorem dX6_cornerBy_1 : decode cX6_cornerBy 1 = .ok (.getfield 15, 3) := by decide +kernel
theorem dX6_cornerBy_4 : decode cX6_cornerBy 4 = .ok (.iload_n 1, 1) := by decide +kernel
theorem dX6_cornerBy_5 : decode cX6_cornerBy 5 = .ok (.iaload, 1) := by decide +kernel
theorem dX6_cornerBy_6 : decode cX6_cornerBy 6 = .ok (.aload_n 0, 1) := by decide +kernel
theorem dX6_cornerBy_7 : decode cX6_cornerBy 7 = .ok (.getfield 19, 3) := by decide +kernel
theorem dX6_cornerBy_10 : decode cX6_cornerBy 10 = .ok (.iload_n 1, 1) := by decide +kernel
theorem dX6_cornerBy_11 : decode cX6_cornerBy 11 = .ok (.iaload, 1) := by decide +kernel
theorem dX6_cornerBy_12 : decode cX6_cornerBy 12 = .ok (.iload_n 2, 1) := by decide +kernel
theorem dX6_cornerBy_13 : decode cX6_cornerBy 13 = .ok (.iconst 4, 1) := by decide +kernel
theorem dX6_cornerBy_14 : decode cX6_cornerBy 14 = .ok (.irem, 1) := by decide +kernel
theorem dX6_cornerBy_15 : decode cX6_cornerBy 15 = .ok (.invokestatic 47, 3) := by decide +kernel
theorem dX6_cornerBy_18 : decode cX6_cornerBy 18 = .ok (.istore_n 3, 1) := by decide +kernel
theorem dX6_cornerBy_19 : decode cX6_cornerBy 19 = .ok (.iload_n 3, 1) := by decide +kernel
theorem dX6_cornerBy_20 : decode cX6_cornerBy 20 = .ok (.iload_n 2, 1) := by decide +kernel
theorem dX6_cornerBy_21 : decode cX6_cornerBy 21 = .ok (.iconst 4, 1) := by decide +kernel
theorem dX6_cornerBy_22 : decode cX6_cornerBy 22 = .ok (.idiv, 1) := by decide +kernel
theorem dX6_cornerBy_23 : decode cX6_cornerBy 23 = .ok (.invokestatic 53, 3) := by decide +kernel
theorem dX6_cornerBy_26 : decode cX6_cornerBy 26 = .ok (.lreturn, 1) := by decide +kernel
theorem dX6_cellsBy_0 : decode cX6_cellsBy 0 = .ok (.iload_n 2, 1) := by decide +kernel
theorem dX6_cellsBy_1 : decode cX6_cellsBy 1 = .ok (.sipush 1000, 3) := by decide +kernel
theorem dX6_cellsBy_4 : decode cX6_cellsBy 4 = .ok (.irem, 1) := by decide +kernel
theorem dX6_cellsBy_5 : decode cX6_cellsBy 5 = .ok (.istore_n 3, 1) := by decide +kernel
theorem dX6_cellsBy_6 : decode cX6_cellsBy 6 = .ok (.aload_n 0, 1) := by decide +kernel
theorem dX6_cellsBy_7 : decode cX6_cellsBy 7 = .ok (.iload_n 1, 1) := by decide +kernel
theorem dX6_cellsBy_8 : decode cX6_cellsBy 8 = .ok (.iload_n 2, 1) := by decide +kernel
theorem dX6_cellsBy_9 : decode cX6_cellsBy 9 = .ok (.sipush 1000, 3) := by decide +kernel
theorem dX6_cellsBy_12 : decode cX6_cellsBy 12 = .ok (.idiv, 1) := by decide +kernel
theorem dX6_cellsBy_13 : decode cX6_cellsBy 13 = .ok (.invokevirtual 59, 3) := by decide +kernel
theorem dX6_cellsBy_16 : decode cX6_cellsBy 16 = .ok (.iload_n 3, 1) := by decide +kernel
theorem dX6_cellsBy_17 : decode cX6_cellsBy 17 = .ok (.bipush 10, 2) := by decide +kernel
theorem dX6_cellsBy_19 : decode cX6_cellsBy 19 = .ok (.idiv, 1) := by decide +kernel
theorem dX6_cellsBy_20 : decode cX6_cellsBy 20 = .ok (.iload_n 3, 1) := by decide +kernel
theorem dX6_cellsBy_21 : decode cX6_cellsBy 21 = .ok (.bipush 10, 2) := by decide +kernel
theorem dX6_cellsBy_23 : decode cX6_cellsBy 23 = .ok (.irem, 1) := by decide +kernel
theorem dX6_cellsBy_24 : decode cX6_cellsBy 24 = .ok (.invokestatic 62, 3) := by decide +kernel
theorem dX6_cellsBy_27 : decode cX6_cellsBy 27 = .ok (.lreturn, 1) := by decide +kernel
theorem dX6_isAllowed_0 : decode cX6_isAllowed 0 = .ok (.iload_n 1, 1) := by decide +kernel
theorem dX6_isAllowed_1 : decode cX6_isAllowed 1 = .ok (.iconst 4, 1) := by decide +kernel
theorem dX6_isAllowed_2 : decode cX6_isAllowed 2 = .ok (.irem, 1) := by decide +kernel
theorem dX6_isAllowed_3 : decode cX6_isAllowed 3 = .ok (.istore_n 2, 1) := by decide +kernel
theorem dX6_isAllowed_4 : decode cX6_isAllowed 4 = .ok (.iload_n 1, 1) := by decide +kernel
theorem dX6_isAllowed_5 : decode cX6_isAllowed 5 = .ok (.iconst 4, 1) := by decide +kernel
theorem dX6_isAllowed_6 : decode cX6_isAllowed 6 = .ok (.idiv, 1) := by decide +kernel
theorem dX6_isAllowed_7 : decode cX6_isAllowed 7 = .ok (.istore_n 3, 1) := by decide +kernel
theorem dX6_isAllowed_8 : decode cX6_isAllowed 8 = .ok (.aload_n 0, 1) := by decide +kernel
theorem dX6_isAllowed_9 : decode cX6_isAllowed 9 = .ok (.getfield 38, 3) := by decide +kernel
theorem dX6_isAllowed_12 : decode cX6_isAllowed 12 = .ok (.iload_n 2, 1) := by decide +kernel
theorem dX6_isAllowed_13 : decode cX6_isAllowed 13 = .ok (.ishr, 1) := by decide +kernel
theorem dX6_isAllowed_14 : decode cX6_isAllowed 14 = .ok (.iconst 1, 1) := by decide +kernel
theorem dX6_isAllowed_15 : decode cX6_isAllowed 15 = .ok (.iand, 1) := by decide +kernel
theorem dX6_isAllowed_16 : decode cX6_isAllowed 16 = .ok (.iconst 1, 1) := by decide +kernel
theorem dX6_isAllowed_17 : decode cX6_isAllowed 17 = .ok (.if_icmp .ne 21, 3) := by decide +kernel
theorem dX6_isAllowed_20 : decode cX6_isAllowed 20 = .ok (.aload_n 0, 1) := by decide +kernel
theorem dX6_isAllowed_21 : decode cX6_isAllowed 21 = .ok (.getfield 38, 3) := by decide +kernel
theorem dX6_isAllowed_24 : decode cX6_isAllowed 24 = .ok (.iconst 3, 1) := by decide +kernel
theorem dX6_isAllowed_25 : decode cX6_isAllowed 25 = .ok (.iload_n 3, 1) := by decide +kernel
theorem dX6_isAllowed_26 : decode cX6_isAllowed 26 = .ok (.iadd, 1) := by decide +kernel
theorem dX6_isAllowed_27 : decode cX6_isAllowed 27 = .ok (.ishr, 1) := by decide +kernel
theorem dX6_isAllowed_28 : decode cX6_isAllowed 28 = .ok (.iconst 1, 1) := by decide +kernel
theorem dX6_isAllowed_29 : decode cX6_isAllowed 29 = .ok (.iand, 1) := by decide +kernel
theorem dX6_isAllowed_30 : decode cX6_isAllowed 30 = .ok (.iconst 1, 1) := by decide +kernel
theorem dX6_isAllowed_31 : decode cX6_isAllowed 31 = .ok (.if_icmp .ne 7, 3) := by decide +kernel
theorem dX6_isAllowed_34 : decode cX6_isAllowed 34 = .ok (.iconst 1, 1) := by decide +kernel
theorem dX6_isAllowed_35 : decode cX6_isAllowed 35 = .ok (.goto 4, 3) := by decide +kernel
theorem dX6_isAllowed_38 : decode cX6_isAllowed 38 = .ok (.iconst 0, 1) := by decide +kernel
theorem dX6_isAllowed_39 : decode cX6_isAllowed 39 = .ok (.ireturn, 1) := by decide +kernel
theorem dX6_holdOf_0 : decode cX6_holdOf 0 = .ok (.iconst 0, 1) := by decide +kernel
theorem dX6_holdOf_1 : decode cX6_holdOf 1 = .ok (.istore_n 2, 1) := by decide +kernel
theorem dX6_holdOf_2 : decode cX6_holdOf 2 = .ok (.iload_n 2, 1) := by decide +kernel
theorem dX6_holdOf_3 : decode cX6_holdOf 3 = .ok (.iconst 4, 1) := by decide +kernel
theorem dX6_holdOf_4 : decode cX6_holdOf 4 = .ok (.if_icmp .ge 21, 3) := by decide +kernel
theorem dX6_holdOf_7 : decode cX6_holdOf 7 = .ok (.aload_n 0, 1) := by decide +kernel
theorem dX6_holdOf_8 : decode cX6_holdOf 8 = .ok (.getfield 25, 3) := by decide +kernel
theorem dX6_holdOf_11 : decode cX6_holdOf 11 = .ok (.iload_n 2, 1) := by decide +kernel
theorem dX6_holdOf_12 : decode cX6_holdOf 12 = .ok (.iaload, 1) := by decide +kernel
theorem dX6_holdOf_13 : decode cX6_holdOf 13 = .ok (.iload_n 1, 1) := by decide +kernel
theorem dX6_holdOf_14 : decode cX6_holdOf 14 = .ok (.if_icmp .ne 5, 3) := by decide +kernel
theorem dX6_holdOf_17 : decode cX6_holdOf 17 = .ok (.iload_n 2, 1) := by decide +kernel
theorem dX6_holdOf_18 : decode cX6_holdOf 18 = .ok (.ireturn, 1) := by decide +kernel
theorem dX6_holdOf_19 : decode cX6_holdOf 19 = .ok (.iinc 2 1, 3) := by decide +kernel
theorem dX6_holdOf_22 : decode cX6_holdOf 22 = .ok (.goto (-20), 3) := by decide +kernel
theorem dX6_holdOf_25 : decode cX6_holdOf 25 = .ok (.iconst (-1), 1) := by decide +kernel
theorem dX6_holdOf_26 : decode cX6_holdOf 26 = .ok (.ireturn, 1) := by decide +kernel
theorem dX6_freeHold_0 : decode cX6_freeHold 0 = .ok (.aload_n 0, 1) := by decide +kernel
theorem dX6_freeHold_1 : decode cX6_freeHold 1 = .ok (.iconst (-1), 1) := by decide +kernel
theorem dX6_freeHold_2 : decode cX6_freeHold 2 = .ok (.invokevirtual 66, 3) := by decide +kernel
theorem dX6_freeHold_5 : decode cX6_freeHold 5 = .ok (.ireturn, 1) := by decide +kernel
theorem dX6_take_0 : decode cX6_take 0 = .ok (.aload_n 0, 1) := by decide +kernel
theorem dX6_take_1 : decode cX6_take 1 = .ok (.getfield 25, 3) := by decide +kernel
theorem dX6_take_4 : decode cX6_take 4 = .ok (.iload_n 1, 1) := by decide +kernel
theorem dX6_take_5 : decode cX6_take 5 = .ok (.iload_n 2, 1) := by decide +kernel
theorem dX6_take_6 : decode cX6_take 6 = .ok (.iastore, 1) := by decide +kernel
theorem dX6_take_7 : decode cX6_take 7 = .ok (.aload_n 0, 1) := by decide +kernel
theorem dX6_take_8 : decode cX6_take 8 = .ok (.getfield 28, 3) := by decide +kernel
theorem dX6_take_11 : decode cX6_take 11 = .ok (.iload_n 1, 1) := by decide +kernel
theorem dX6_take_12 : decode cX6_take 12 = .ok (.iload_n 3, 1) := by decide +kernel
theorem dX6_take_13 : decode cX6_take 13 = .ok (.iastore, 1) := by decide +kernel
theorem dX6_take_14 : decode cX6_take 14 = .ok (.return_, 1) := by decide +kernel
theorem dX6_release_0 : decode cX6_release 0 = .ok (.aload_n 0, 1) := by decide +kernel
theorem dX6_release_1 : decode cX6_release 1 = .ok (.iload_n 1, 1) := by decide +kernel
theorem dX6_release_2 : decode cX6_release 2 = .ok (.iconst (-1), 1) := by decide +kernel
theorem dX6_release_3 : decode cX6_release 3 = .ok (.iconst (-1), 1) := by decide +kernel
theorem dX6_release_4 : decode cX6_release 4 = .ok (.invokevirtual 70, 3) := by decide +kernel
theorem dX6_release_7 : decode cX6_release 7 = .ok (.return_, 1) := by decide +kernel
theorem dX6_emptyHands_0 : decode cX6_emptyHands 0 = .ok (.iconst 0, 1) := by decide +kernel
theorem dX6_emptyHands_1 : decode cX6_emptyHands 1 = .ok (.istore_n 1, 1) := by decide +kernel
theorem dX6_emptyHands_2 : decode cX6_emptyHands 2 = .ok (.iload_n 1, 1) := by decide +kernel
theorem dX6_emptyHands_3 : decode cX6_emptyHands 3 = .ok (.iconst 4, 1) := by decide +kernel
theorem dX6_emptyHands_4 : decode cX6_emptyHands 4 = .ok (.if_icmp .ge 14, 3) := by decide +kernel
theorem dX6_emptyHands_7 : decode cX6_emptyHands 7 = .ok (.aload_n 0, 1) := by decide +kernel
theorem dX6_emptyHands_8 : decode cX6_emptyHands 8 = .ok (.iload_n 1, 1) := by decide +kernel
theorem dX6_emptyHands_9 : decode cX6_emptyHands 9 = .ok (.invokevirtual 74, 3) := by decide +kernel
theorem dX6_emptyHands_12 : decode cX6_emptyHands 12 = .ok (.iinc 1 1, 3) := by decide +kernel
theorem dX6_emptyHands_15 : decode cX6_emptyHands 15 = .ok (.goto (-13), 3) := by decide +kernel
theorem dX6_emptyHands_18 : decode cX6_emptyHands 18 = .ok (.return_, 1) := by decide +kernel
theorem dX6_holdsInUse_0 : decode cX6_holdsInUse 0 = .ok (.iconst 0, 1) := by decide +kernel
theorem dX6_holdsInUse_1 : decode cX6_holdsInUse 1 = .ok (.istore_n 1, 1) := by decide +kernel
theorem dX6_holdsInUse_2 : decode cX6_holdsInUse 2 = .ok (.iconst 0, 1) := by decide +kernel
theorem dX6_holdsInUse_3 : decode cX6_holdsInUse 3 = .ok (.istore_n 2, 1) := by decide +kernel
theorem dX6_holdsInUse_4 : decode cX6_holdsInUse 4 = .ok (.iload_n 2, 1) := by decide +kernel
theorem dX6_holdsInUse_5 : decode cX6_holdsInUse 5 = .ok (.iconst 4, 1) := by decide +kernel
theorem dX6_holdsInUse_6 : decode cX6_holdsInUse 6 = .ok (.if_icmp .ge 21, 3) := by decide +kernel
theorem dX6_holdsInUse_9 : decode cX6_holdsInUse 9 = .ok (.aload_n 0, 1) := by decide +kernel
theorem dX6_holdsInUse_10 : decode cX6_holdsInUse 10 = .ok (.getfield 25, 3) := by decide +kernel
theorem dX6_holdsInUse_13 : decode cX6_holdsInUse 13 = .ok (.iload_n 2, 1) := by decide +kernel
theorem dX6_holdsInUse_14 : decode cX6_holdsInUse 14 = .ok (.iaload, 1) := by decide +kernel
theorem dX6_holdsInUse_15 : decode cX6_holdsInUse 15 = .ok (.ifCond .lt 6, 3) := by decide +kernel
theorem dX6_holdsInUse_18 : decode cX6_holdsInUse 18 = .ok (.iinc 1 1, 3) := by decide +kernel
theorem dX6_holdsInUse_21 : decode cX6_holdsInUse 21 = .ok (.iinc 2 1, 3) := by decide +kernel
theorem dX6_holdsInUse_24 : decode cX6_holdsInUse 24 = .ok (.goto (-20), 3) := by decide +kernel
theorem dX6_holdsInUse_27 : decode cX6_holdsInUse 27 = .ok (.iload_n 1, 1) := by decide +kernel
theorem dX6_holdsInUse_28 : decode cX6_holdsInUse 28 = .ok (.ireturn, 1) := by decide +kernel
theorem dX6_cellsOfHold_0 : decode cX6_cellsOfHold 0 = .ok (.aload_n 0, 1) := by decide +kernel
theorem dX6_cellsOfHold_1 : decode cX6_cellsOfHold 1 = .ok (.getfield 25, 3) := by decide +kernel
theorem dX6_cellsOfHold_4 : decode cX6_cellsOfHold 4 = .ok (.iload_n 1, 1) := by decide +kernel
theorem dX6_cellsOfHold_5 : decode cX6_cellsOfHold 5 = .ok (.iaload, 1) := by decide +kernel
theorem dX6_cellsOfHold_6 : decode cX6_cellsOfHold 6 = .ok (.istore_n 2, 1) := by decide +kernel
theorem dX6_cellsOfHold_7 : decode cX6_cellsOfHold 7 = .ok (.aload_n 0, 1) := by decide +kernel
theorem dX6_cellsOfHold_8 : decode cX6_cellsOfHold 8 = .ok (.iload_n 2, 1) := by decide +kernel
theorem dX6_cellsOfHold_9 : decode cX6_cellsOfHold 9 = .ok (.invokevirtual 78, 3) := by decide +kernel
theorem dX6_cellsOfHold_12 : decode cX6_cellsOfHold 12 = .ok (.ifCond .eq 11, 3) := by decide +kernel
theorem dX6_cellsOfHold_15 : decode cX6_cellsOfHold 15 = .ok (.aload_n 0, 1) := by decide +kernel
theorem dX6_cellsOfHold_16 : decode cX6_cellsOfHold 16 = .ok (.iload_n 2, 1) := by decide +kernel
theorem dX6_cellsOfHold_17 : decode cX6_cellsOfHold 17 = .ok (.invokevirtual 82, 3) := by decide +kernel
theorem dX6_cellsOfHold_20 : decode cX6_cellsOfHold 20 = .ok (.ifCond .eq 5, 3) := by decide +kernel
theorem dX6_cellsOfHold_23 : decode cX6_cellsOfHold 23 = .ok (.lconst 0, 1) := by decide +kernel
theorem dX6_cellsOfHold_24 : decode cX6_cellsOfHold 24 = .ok (.lreturn, 1) := by decide +kernel
theorem dX6_cellsOfHold_25 : decode cX6_cellsOfHold 25 = .ok (.aload_n 0, 1) := by decide +kernel
theorem dX6_cellsOfHold_26 : decode cX6_cellsOfHold 26 = .ok (.iload_n 2, 1) := by decide +kernel
theorem dX6_cellsOfHold_27 : decode cX6_cellsOfHold 27 = .ok (.aload_n 0, 1) := by decide +kernel
theorem dX6_cellsOfHold_28 : decode cX6_cellsOfHold 28 = .ok (.getfield 28, 3) := by decide +kernel
theorem dX6_cellsOfHold_31 : decode cX6_cellsOfHold 31 = .ok (.iload_n 1, 1) := by decide +kernel
theorem dX6_cellsOfHold_32 : decode cX6_cellsOfHold 32 = .ok (.iaload, 1) := by decide +kernel
theorem dX6_cellsOfHold_33 : decode cX6_cellsOfHold 33 = .ok (.invokevirtual 85, 3) := by decide +kernel
theorem dX6_cellsOfHold_36 : decode cX6_cellsOfHold 36 = .ok (.lreturn, 1) := by decide +kernel
theorem dX6_darkCells_0 : decode cX6_darkCells 0 = .ok (.lconst 0, 1) := by decide +kernel
theorem dX6_darkCells_1 : decode cX6_darkCells 1 = .ok (.lstore_n 1, 1) := by decide +kernel
theorem dX6_darkCells_2 : decode cX6_darkCells 2 = .ok (.iconst 0, 1) := by decide +kernel
theorem dX6_darkCells_3 : decode cX6_darkCells 3 = .ok (.istore_n 3, 1) := by decide +kernel
theorem dX6_darkCells_4 : decode cX6_darkCells 4 = .ok (.iload_n 3, 1) := by decide +kernel
theorem dX6_darkCells_5 : decode cX6_darkCells 5 = .ok (.iconst 4, 1) := by decide +kernel
theorem dX6_darkCells_6 : decode cX6_darkCells 6 = .ok (.if_icmp .ge 17, 3) := by decide +kernel
theorem dX6_darkCells_9 : decode cX6_darkCells 9 = .ok (.lload_n 1, 1) := by decide +kernel
theorem dX6_darkCells_10 : decode cX6_darkCells 10 = .ok (.aload_n 0, 1) := by decide +kernel
theorem dX6_darkCells_11 : decode cX6_darkCells 11 = .ok (.iload_n 3, 1) := by decide +kernel
theorem dX6_darkCells_12 : decode cX6_darkCells 12 = .ok (.invokevirtual 88, 3) := by decide +kernel
theorem dX6_darkCells_15 : decode cX6_darkCells 15 = .ok (.lor, 1) := by decide +kernel
theorem dX6_darkCells_16 : decode cX6_darkCells 16 = .ok (.lstore_n 1, 1) := by decide +kernel
theorem dX6_darkCells_17 : decode cX6_darkCells 17 = .ok (.iinc 3 1, 3) := by decide +kernel
theorem dX6_darkCells_20 : decode cX6_darkCells 20 = .ok (.goto (-16), 3) := by decide +kernel
theorem dX6_darkCells_23 : decode cX6_darkCells 23 = .ok (.lload_n 1, 1) := by decide +kernel
theorem dX6_darkCells_24 : decode cX6_darkCells 24 = .ok (.lreturn, 1) := by decide +kernel
theorem dX6_singleCells_0 : decode cX6_singleCells 0 = .ok (.lconst 0, 1) := by decide +kernel
theorem dX6_singleCells_1 : decode cX6_singleCells 1 = .ok (.lstore_n 1, 1) := by decide +kernel
theorem dX6_singleCells_2 : decode cX6_singleCells 2 = .ok (.lconst 0, 1) := by decide +kernel
theorem dX6_singleCells_3 : decode cX6_singleCells 3 = .ok (.lstore_n 3, 1) := by decide +kernel
theorem dX6_singleCells_4 : decode cX6_singleCells 4 = .ok (.iconst 0, 1) := by decide +kernel
theorem dX6_singleCells_5 : decode cX6_singleCells 5 = .ok (.istore 5, 2) := by decide +kernel
theorem dX6_singleCells_7 : decode cX6_singleCells 7 = .ok (.iload 5, 2) := by decide +kernel
theorem dX6_singleCells_9 : decode cX6_singleCells 9 = .ok (.iconst 4, 1) := by decide +kernel
theorem dX6_singleCells_10 : decode cX6_singleCells 10 = .ok (.if_icmp .ge 29, 3) := by decide +kernel
theorem dX6_singleCells_13 : decode cX6_singleCells 13 = .ok (.aload_n 0, 1) := by decide +kernel
theorem dX6_singleCells_14 : decode cX6_singleCells 14 = .ok (.iload 5, 2) := by decide +kernel
theorem dX6_singleCells_16 : decode cX6_singleCells 16 = .ok (.invokevirtual 88, 3) := by decide +kernel
theorem dX6_singleCells_19 : decode cX6_singleCells 19 = .ok (.lstore 6, 2) := by decide +kernel
theorem dX6_singleCells_21 : decode cX6_singleCells 21 = .ok (.lload_n 3, 1) := by decide +kernel
theorem dX6_singleCells_22 : decode cX6_singleCells 22 = .ok (.lload_n 1, 1) := by decide +kernel
theorem dX6_singleCells_23 : decode cX6_singleCells 23 = .ok (.lload 6, 2) := by decide +kernel
theorem dX6_singleCells_25 : decode cX6_singleCells 25 = .ok (.land, 1) := by decide +kernel
theorem dX6_singleCells_26 : decode cX6_singleCells 26 = .ok (.lor, 1) := by decide +kernel
theorem dX6_singleCells_27 : decode cX6_singleCells 27 = .ok (.lstore_n 3, 1) := by decide +kernel
theorem dX6_singleCells_28 : decode cX6_singleCells 28 = .ok (.lload_n 1, 1) := by decide +kernel
theorem dX6_singleCells_29 : decode cX6_singleCells 29 = .ok (.lload 6, 2) := by decide +kernel
theorem dX6_singleCells_31 : decode cX6_singleCells 31 = .ok (.lor, 1) := by decide +kernel
theorem dX6_singleCells_32 : decode cX6_singleCells 32 = .ok (.lstore_n 1, 1) := by decide +kernel
theorem dX6_singleCells_33 : decode cX6_singleCells 33 = .ok (.iinc 5 1, 3) := by decide +kernel
theorem dX6_singleCells_36 : decode cX6_singleCells 36 = .ok (.goto (-29), 3) := by decide +kernel
theorem dX6_singleCells_39 : decode cX6_singleCells 39 = .ok (.lload_n 1, 1) := by decide +kernel
theorem dX6_singleCells_40 : decode cX6_singleCells 40 = .ok (.lload_n 3, 1) := by decide +kernel
theorem dX6_singleCells_41 : decode cX6_singleCells 41 = .ok (.ldc2_w 92, 3) := by decide +kernel
theorem dX6_singleCells_44 : decode cX6_singleCells 44 = .ok (.lxor, 1) := by decide +kernel
theorem dX6_singleCells_45 : decode cX6_singleCells 45 = .ok (.land, 1) := by decide +kernel
theorem dX6_singleCells_46 : decode cX6_singleCells 46 = .ok (.lreturn, 1) := by decide +kernel
theorem dX6_hasScene_0 : decode cX6_hasScene 0 = .ok (.iload_n 1, 1) := by decide +kernel
theorem dX6_hasScene_1 : decode cX6_hasScene 1 = .ok (.ifCond .lt 15, 3) := by decide +kernel
theorem dX6_hasScene_4 : decode cX6_hasScene 4 = .ok (.iload_n 1, 1) := by decide +kernel
theorem dX6_hasScene_5 : decode cX6_hasScene 5 = .ok (.aload_n 0, 1) := by decide +kernel
theorem dX6_hasScene_6 : decode cX6_hasScene 6 = .ok (.getfield 31, 3) := by decide +kernel
theorem dX6_hasScene_9 : decode cX6_hasScene 9 = .ok (.if_icmp .ge 7, 3) := by decide +kernel
theorem dX6_hasScene_12 : decode cX6_hasScene 12 = .ok (.iconst 1, 1) := by decide +kernel
theorem dX6_hasScene_13 : decode cX6_hasScene 13 = .ok (.goto 4, 3) := by decide +kernel
theorem dX6_hasScene_16 : decode cX6_hasScene 16 = .ok (.iconst 0, 1) := by decide +kernel
theorem dX6_hasScene_17 : decode cX6_hasScene 17 = .ok (.ireturn, 1) := by decide +kernel
theorem dX6_hasRoomForScene_0 : decode cX6_hasRoomForScene 0 = .ok (.aload_n 0, 1) := by decide +kernel
theorem dX6_hasRoomForScene_1 : decode cX6_hasRoomForScene 1 = .ok (.getfield 31, 3) := by decide +kernel
theorem dX6_hasRoomForScene_4 : decode cX6_hasRoomForScene 4 = .ok (.bipush 7, 2) := by decide +kernel
theorem dX6_hasRoomForScene_6 : decode cX6_hasRoomForScene 6 = .ok (.if_icmp .ge 7, 3) := by decide +kernel
theorem dX6_hasRoomForScene_9 : decode cX6_hasRoomForScene 9 = .ok (.iconst 1, 1) := by decide +kernel
theorem dX6_hasRoomForScene_10 : decode cX6_hasRoomForScene 10 = .ok (.goto 4, 3) := by decide +kernel
theorem dX6_hasRoomForScene_13 : decode cX6_hasRoomForScene 13 = .ok (.iconst 0, 1) := by decide +kernel
theorem dX6_hasRoomForScene_14 : decode cX6_hasRoomForScene 14 = .ok (.ireturn, 1) := by decide +kernel
theorem dX6_addScene_0 : decode cX6_addScene 0 = .ok (.aload_n 0, 1) := by decide +kernel
theorem dX6_addScene_1 : decode cX6_addScene 1 = .ok (.getfield 34, 3) := by decide +kernel
theorem dX6_addScene_4 : decode cX6_addScene 4 = .ok (.aload_n 0, 1) := by decide +kernel
theorem dX6_addScene_5 : decode cX6_addScene 5 = .ok (.getfield 31, 3) := by decide +kernel
theorem dX6_addScene_8 : decode cX6_addScene 8 = .ok (.lload_n 1, 1) := by decide +kernel
theorem dX6_addScene_9 : decode cX6_addScene 9 = .ok (.lastore, 1) := by decide +kernel
theorem dX6_addScene_10 : decode cX6_addScene 10 = .ok (.aload_n 0, 1) := by decide +kernel
theorem dX6_addScene_11 : decode cX6_addScene 11 = .ok (.dup, 1) := by decide +kernel
theorem dX6_addScene_12 : decode cX6_addScene 12 = .ok (.getfield 31, 3) := by decide +kernel
theorem dX6_addScene_15 : decode cX6_addScene 15 = .ok (.iconst 1, 1) := by decide +kernel
theorem dX6_addScene_16 : decode cX6_addScene 16 = .ok (.iadd, 1) := by decide +kernel
theorem dX6_addScene_17 : decode cX6_addScene 17 = .ok (.putfield 31, 3) := by decide +kernel
theorem dX6_addScene_20 : decode cX6_addScene 20 = .ok (.aload_n 0, 1) := by decide +kernel
theorem dX6_addScene_21 : decode cX6_addScene 21 = .ok (.getfield 31, 3) := by decide +kernel
theorem dX6_addScene_24 : decode cX6_addScene 24 = .ok (.iconst 1, 1) := by decide +kernel
theorem dX6_addScene_25 : decode cX6_addScene 25 = .ok (.isub, 1) := by decide +kernel
theorem dX6_addScene_26 : decode cX6_addScene 26 = .ok (.ireturn, 1) := by decide +kernel
theorem dX6_offBetween_0 : decode cX6_offBetween 0 = .ok (.aload_n 0, 1) := by decide +kernel
theorem dX6_offBetween_1 : decode cX6_offBetween 1 = .ok (.getfield 34, 3) := by decide +kernel
theorem dX6_offBetween_4 : decode cX6_offBetween 4 = .ok (.iload_n 1, 1) := by decide +kernel
theorem dX6_offBetween_5 : decode cX6_offBetween 5 = .ok (.laload, 1) := by decide +kernel
theorem dX6_offBetween_6 : decode cX6_offBetween 6 = .ok (.aload_n 0, 1) := by decide +kernel
theorem dX6_offBetween_7 : decode cX6_offBetween 7 = .ok (.getfield 34, 3) := by decide +kernel
theorem dX6_offBetween_10 : decode cX6_offBetween 10 = .ok (.iload_n 2, 1) := by decide +kernel
theorem dX6_offBetween_11 : decode cX6_offBetween 11 = .ok (.laload, 1) := by decide +kernel
theorem dX6_offBetween_12 : decode cX6_offBetween 12 = .ok (.invokestatic 94, 3) := by decide +kernel
theorem dX6_offBetween_15 : decode cX6_offBetween 15 = .ok (.ireturn, 1) := by decide +kernel
theorem dX6_changesBetween_0 : decode cX6_changesBetween 0 = .ok (.aload_n 0, 1) := by decide +kernel
theorem dX6_changesBetween_1 : decode cX6_changesBetween 1 = .ok (.iload_n 1, 1) := by decide +kernel
theorem dX6_changesBetween_2 : decode cX6_changesBetween 2 = .ok (.iload_n 2, 1) := by decide +kernel
theorem dX6_changesBetween_3 : decode cX6_changesBetween 3 = .ok (.invokevirtual 98, 3) := by decide +kernel
theorem dX6_changesBetween_6 : decode cX6_changesBetween 6 = .ok (.iconst 3, 1) := by decide +kernel
theorem dX6_changesBetween_7 : decode cX6_changesBetween 7 = .ok (.iadd, 1) := by decide +kernel
theorem dX6_changesBetween_8 : decode cX6_changesBetween 8 = .ok (.iconst 4, 1) := by decide +kernel
theorem dX6_changesBetween_9 : decode cX6_changesBetween 9 = .ok (.idiv, 1) := by decide +kernel
theorem dX6_changesBetween_10 : decode cX6_changesBetween 10 = .ok (.ireturn, 1) := by decide +kernel
def w_s_hasShape : List Cond := .code yX6_hasShape cX6_hasShape 2 (some .boolean) :: (([.fieldLink RX6 9 "LampShapes$Stage" "shapes" "I"] : List Cond) ++ wsX60)
set_option maxHeartbeats 4000000 in
set_option maxRecDepth 100000 in
theorem s_hasShape (l : Launch) (dC : Nat → ClassId) (dI : Nat → Nat → Nat) (ad : Nat → Nat) (h0 : Nat) (k : Int32) (sh : Int32) (w1 : Value) (w2 : Value) (w3 : Value) (w4 : Value) (w5 : Value) (w6 : Value) (w7 : Value) (w8 : Value) : Met l yX6_hasShape w_s_hasShape ({ frames := 0, cells := 0, slots := 0, locals := 0 } : Room) (va_Pc [.ref h0, .int k] (preS dC dI ad [] [(h0, .inr (4, [.int sh, w1, w2, w3, w4, w5, w6, w7, w8]))])) (vp_Si (fun r => (r.toInt = 1 ∧ 0 ≤ k.toInt ∧ k.toInt < sh.toInt) ∨ r.toInt = 0)) 0 0 (fun _ => False) := by
  refine Met.ofW (cc := cX6_hasShape) (maxL := 2) (ret := (some .boolean)) (by decide) rfl ?_
  intro p e s m args below meth c s₁ B hml hv
  obtain ⟨rfl, hP, hK, hev⟩ := hv
  have hx := B.exec
  have hb := B.bytes
  have hr := B.returns
  have hts := atoms_spec (ws := w_s_hasShape) B.pre
  have hown : s.vm.findClass RX6 = some m.cls := findClass_of_methodNamed B.named
  have hlocks := B.notSynchronized
  have inX6 : ∀ w ∈ wsX60, w ∈ w_s_hasShape := fun w h => List.mem_cons_of_mem _ (List.mem_append_right _ h)
  have hP : va_P (dC, dI) vwCl [(h0, .inr (4, [.int sh, w1, w2, w3, w4, w5, w6, w7, w8]))] s.heap := hP
  have hl := lv_entry ([.ref h0, .int k]) (n := 2) (Nat.le_of_ble_eq_true rfl)
  rw [lg_entry_eq]
  generalize (lg_sl ([.ref h0, .int k]) ++ List.replicate (2 - (lg_sl ([.ref h0, .int k])).length) Slot.unset).toArray = ls at hl ⊢
  have hl : lv_has ls 2 [(0, .ref h0), (1, .int k)] := hl
  refine lv_iload_n hx hb dX6_hasShape_0 rfl (lv_at hl 1 rfl) ?_
  refine lv_if_lt (tgt := 16) hx hb dX6_hasShape_1 (by decide) (fun c_1 => ?_) (fun c_1 => ?_)
  · skip
    have tc_1 : k.toInt < 0 := (fa_lt _ _).mp c_1
    refine lv_iconst (v := 0) hx hb dX6_hasShape_16 (by decide) ?_
    exact W.zret (v := (0 : Int32)) hx hb hr (by decide) (fun t ht hW => ⟨(0 : Int32), rfl, (by first | omega | decide | (simp only [fa_lt, fa_le, fa_eq, and_true, true_and, and_false, false_and, not_true_eq_false, not_false_eq_true, li_0, li_1, li_2, li_3, li_4, li_5, li_6, li_7, li_8, li_9, li_10, li_12, li_15, li_16, li_20, li_30, li_34, li_38, li_40, li_63, li_64, li_65, li_78, li_120, li_1000, li_4000, li_10000, li_11077, li_255, li_65535, li_m1, li_m2, li_m1000000001, li_m1000000002, li_m1000000003, li_m1000000004, li_m1000000005, li_m1000000006, li_m1000000007, or_true, true_or, or_false, false_or, implies_true, true_implies, false_implies] <;> omega)), ht⟩) (fun _ h => absurd h List.not_mem_nil) dX6_hasShape_17
  · skip
    have tc_1 : ¬ k.toInt < 0 := fun h => c_1 ((fa_lt _ _).mpr h)
    refine lv_iload_n hx hb dX6_hasShape_4 rfl (lv_at hl 1 rfl) ?_
    refine lv_aload_n hx hb dX6_hasShape_5 rfl (lv_at hl 0 rfl) ?_
    refine va_get (D := (dC, dI)) (ci := 4) (v := .int sh) (C := RX6) (T := TX6) (N := 9) hx hb hts inX6 hown hK hP 0 rfl rfl 0 (by decide) (hts _ (List.mem_of_getElem? (i := 1) rfl)) (fun _ h9 => h9) rfl dX6_hasShape_6 ?_
    have rc_2_x := pp_rng k
    have rc_2_y := pp_rng sh
    refine lv_icmp_ge (tgt := 16) hx hb dX6_hasShape_9 (by decide) (fun c_2 => ?_) (fun c_2 => ?_)
    · skip
      have tc_2 : sh.toInt ≤ k.toInt := (fa_le _ _).mp c_2
      refine lv_iconst (v := 0) hx hb dX6_hasShape_16 (by decide) ?_
      exact W.zret (v := (0 : Int32)) hx hb hr (by decide) (fun t ht hW => ⟨(0 : Int32), rfl, (by first | omega | decide | (simp only [fa_lt, fa_le, fa_eq, and_true, true_and, and_false, false_and, not_true_eq_false, not_false_eq_true, li_0, li_1, li_2, li_3, li_4, li_5, li_6, li_7, li_8, li_9, li_10, li_12, li_15, li_16, li_20, li_30, li_34, li_38, li_40, li_63, li_64, li_65, li_78, li_120, li_1000, li_4000, li_10000, li_11077, li_255, li_65535, li_m1, li_m2, li_m1000000001, li_m1000000002, li_m1000000003, li_m1000000004, li_m1000000005, li_m1000000006, li_m1000000007, or_true, true_or, or_false, false_or, implies_true, true_implies, false_implies] <;> omega)), ht⟩) (fun _ h => absurd h List.not_mem_nil) dX6_hasShape_17
    · skip
      have tc_2 : ¬ sh.toInt ≤ k.toInt := fun h => c_2 ((fa_le _ _).mpr h)
      refine lv_iconst (v := 1) hx hb dX6_hasShape_12 (by decide) ?_
      refine lv_goto (tgt := 17) hx hb dX6_hasShape_13 (by decide) ?_
      exact W.zret (v := (1 : Int32)) hx hb hr (by decide) (fun t ht hW => ⟨(1 : Int32), rfl, (by first | omega | decide | (simp only [fa_lt, fa_le, fa_eq, and_true, true_and, and_false, false_and, not_true_eq_false, not_false_eq_true, li_0, li_1, li_2, li_3, li_4, li_5, li_6, li_7, li_8, li_9, li_10, li_12, li_15, li_16, li_20, li_30, li_34, li_38, li_40, li_63, li_64, li_65, li_78, li_120, li_1000, li_4000, li_10000, li_11077, li_255, li_65535, li_m1, li_m2, li_m1000000001, li_m1000000002, li_m1000000003, li_m1000000004, li_m1000000005, li_m1000000006, li_m1000000007, or_true, true_or, or_false, false_or, implies_true, true_implies, false_implies] <;> omega)), ht⟩) (fun _ h => absurd h List.not_mem_nil) dX6_hasShape_17

def w_s_hasRoomForShape : List Cond := .code yX6_hasRoomForShape cX6_hasRoomForShape 1 (some .boolean) :: (([.fieldLink RX6 9 "LampShapes$Stage" "shapes" "I"] : List Cond) ++ wsX60)
set_option maxHeartbeats 4000000 in
set_option maxRecDepth 100000 in
theorem s_hasRoomForShape (l : Launch) (dC : Nat → ClassId) (dI : Nat → Nat → Nat) (ad : Nat → Nat) (h0 : Nat) (sh : Int32) (w1 : Value) (w2 : Value) (w3 : Value) (w4 : Value) (w5 : Value) (w6 : Value) (w7 : Value) (w8 : Value) : Met l yX6_hasRoomForShape w_s_hasRoomForShape ({ frames := 0, cells := 0, slots := 0, locals := 0 } : Room) (va_Pc [.ref h0] (preS dC dI ad [] [(h0, .inr (4, [.int sh, w1, w2, w3, w4, w5, w6, w7, w8]))])) (vp_Si (fun r => (r.toInt = 1 ∧ sh.toInt < 9) ∨ r.toInt = 0)) 0 0 (fun _ => False) := by
  refine Met.ofW (cc := cX6_hasRoomForShape) (maxL := 1) (ret := (some .boolean)) (by decide) rfl ?_
  intro p e s m args below meth c s₁ B hml hv
  obtain ⟨rfl, hP, hK, hev⟩ := hv
  have hx := B.exec
  have hb := B.bytes
  have hr := B.returns
  have hts := atoms_spec (ws := w_s_hasRoomForShape) B.pre
  have hown : s.vm.findClass RX6 = some m.cls := findClass_of_methodNamed B.named
  have hlocks := B.notSynchronized
  have inX6 : ∀ w ∈ wsX60, w ∈ w_s_hasRoomForShape := fun w h => List.mem_cons_of_mem _ (List.mem_append_right _ h)
  have hP : va_P (dC, dI) vwCl [(h0, .inr (4, [.int sh, w1, w2, w3, w4, w5, w6, w7, w8]))] s.heap := hP
  have hl := lv_entry ([.ref h0]) (n := 1) (Nat.le_of_ble_eq_true rfl)
  rw [lg_entry_eq]
  generalize (lg_sl ([.ref h0]) ++ List.replicate (1 - (lg_sl ([.ref h0])).length) Slot.unset).toArray = ls at hl ⊢
  have hl : lv_has ls 1 [(0, .ref h0)] := hl
  refine lv_aload_n hx hb dX6_hasRoomForShape_0 rfl (lv_at hl 0 rfl) ?_
  refine va_get (D := (dC, dI)) (ci := 4) (v := .int sh) (C := RX6) (T := TX6) (N := 9) hx hb hts inX6 hown hK hP 0 rfl rfl 0 (by decide) (hts _ (List.mem_of_getElem? (i := 1) rfl)) (fun _ h9 => h9) rfl dX6_hasRoomForShape_1 ?_
  refine lv_bipush (v := 9) hx hb dX6_hasRoomForShape_4 (by decide) ?_
  refine lv_icmp_ge (tgt := 13) hx hb dX6_hasRoomForShape_6 (by decide) (fun c_1 => ?_) (fun c_1 => ?_)
  · skip
    have tc_1 : 9 ≤ sh.toInt := (fa_le _ _).mp c_1
    refine lv_iconst (v := 0) hx hb dX6_hasRoomForShape_13 (by decide) ?_
    exact W.zret (v := (0 : Int32)) hx hb hr (by decide) (fun t ht hW => ⟨(0 : Int32), rfl, (by first | omega | decide | (simp only [fa_lt, fa_le, fa_eq, and_true, true_and, and_false, false_and, not_true_eq_false, not_false_eq_true, li_0, li_1, li_2, li_3, li_4, li_5, li_6, li_7, li_8, li_9, li_10, li_12, li_15, li_16, li_20, li_30, li_34, li_38, li_40, li_63, li_64, li_65, li_78, li_120, li_1000, li_4000, li_10000, li_11077, li_255, li_65535, li_m1, li_m2, li_m1000000001, li_m1000000002, li_m1000000003, li_m1000000004, li_m1000000005, li_m1000000006, li_m1000000007, or_true, true_or, or_false, false_or, implies_true, true_implies, false_implies] <;> omega)), ht⟩) (fun _ h => absurd h List.not_mem_nil) dX6_hasRoomForShape_14
  · skip
    have tc_1 : ¬ 9 ≤ sh.toInt := fun h => c_1 ((fa_le _ _).mpr h)
    refine lv_iconst (v := 1) hx hb dX6_hasRoomForShape_9 (by decide) ?_
    refine lv_goto (tgt := 14) hx hb dX6_hasRoomForShape_10 (by decide) ?_
    exact W.zret (v := (1 : Int32)) hx hb hr (by decide) (fun t ht hW => ⟨(1 : Int32), rfl, (by first | omega | decide | (simp only [fa_lt, fa_le, fa_eq, and_true, true_and, and_false, false_and, not_true_eq_false, not_false_eq_true, li_0, li_1, li_2, li_3, li_4, li_5, li_6, li_7, li_8, li_9, li_10, li_12, li_15, li_16, li_20, li_30, li_34, li_38, li_40, li_63, li_64, li_65, li_78, li_120, li_1000, li_4000, li_10000, li_11077, li_255, li_65535, li_m1, li_m2, li_m1000000001, li_m1000000002, li_m1000000003, li_m1000000004, li_m1000000005, li_m1000000006, li_m1000000007, or_true, true_or, or_false, false_or, implies_true, true_implies, false_implies] <;> omega)), ht⟩) (fun _ h => absurd h List.not_mem_nil) dX6_hasRoomForShape_14

def w_s_hasScene : List Cond := .code yX6_hasScene cX6_hasScene 2 (some .boolean) :: (([.fieldLink RX6 31 "LampShapes$Stage" "scenes" "I"] : List Cond) ++ wsX60)
set_option maxHeartbeats 4000000 in
set_option maxRecDepth 100000 in
theorem s_hasScene (l : Launch) (dC : Nat → ClassId) (dI : Nat → Nat → Nat) (ad : Nat → Nat) (h0 : Nat) (k : Int32) (w0 : Value) (w1 : Value) (w2 : Value) (w3 : Value) (w4 : Value) (w5 : Value) (sc : Int32) (w7 : Value) (w8 : Value) : Met l yX6_hasScene w_s_hasScene ({ frames := 0, cells := 0, slots := 0, locals := 0 } : Room) (va_Pc [.ref h0, .int k] (preS dC dI ad [] [(h0, .inr (4, [w0, w1, w2, w3, w4, w5, .int sc, w7, w8]))])) (vp_Si (fun r => (r.toInt = 1 ∧ 0 ≤ k.toInt ∧ k.toInt < sc.toInt) ∨ r.toInt = 0)) 0 0 (fun _ => False) := by
  refine Met.ofW (cc := cX6_hasScene) (maxL := 2) (ret := (some .boolean)) (by decide) rfl ?_
  intro p e s m args below meth c s₁ B hml hv
  obtain ⟨rfl, hP, hK, hev⟩ := hv
  have hx := B.exec
  have hb := B.bytes
  have hr := B.returns
  have hts := atoms_spec (ws := w_s_hasScene) B.pre
  have hown : s.vm.findClass RX6 = some m.cls := findClass_of_methodNamed B.named
  have hlocks := B.notSynchronized
  have inX6 : ∀ w ∈ wsX60, w ∈ w_s_hasScene := fun w h => List.mem_cons_of_mem _ (List.mem_append_right _ h)
  have hP : va_P (dC, dI) vwCl [(h0, .inr (4, [w0, w1, w2, w3, w4, w5, .int sc, w7, w8]))] s.heap := hP
  have hl := lv_entry ([.ref h0, .int k]) (n := 2) (Nat.le_of_ble_eq_true rfl)
  rw [lg_entry_eq]
  generalize (lg_sl ([.ref h0, .int k]) ++ List.replicate (2 - (lg_sl ([.ref h0, .int k])).length) Slot.unset).toArray = ls at hl ⊢
  have hl : lv_has ls 2 [(0, .ref h0), (1, .int k)] := hl
  refine lv_iload_n hx hb dX6_hasScene_0 rfl (lv_at hl 1 rfl) ?_
  refine lv_if_lt (tgt := 16) hx hb dX6_hasScene_1 (by decide) (fun c_1 => ?_) (fun c_1 => ?_)
  · skip
    have tc_1 : k.toInt < 0 := (fa_lt _ _).mp c_1
    refine lv_iconst (v := 0) hx hb dX6_hasScene_16 (by decide) ?_
    exact W.zret (v := (0 : Int32)) hx hb hr (by decide) (fun t ht hW => ⟨(0 : Int32), rfl, (by first | omega | decide | (simp only [fa_lt, fa_le, fa_eq, and_true, true_and, and_false, false_and, not_true_eq_false, not_false_eq_true, li_0, li_1, li_2, li_3, li_4, li_5, li_6, li_7, li_8, li_9, li_10, li_12, li_15, li_16, li_20, li_30, li_34, li_38, li_40, li_63, li_64, li_65, li_78, li_120, li_1000, li_4000, li_10000, li_11077, li_255, li_65535, li_m1, li_m2, li_m1000000001, li_m1000000002, li_m1000000003, li_m1000000004, li_m1000000005, li_m1000000006, li_m1000000007, or_true, true_or, or_false, false_or, implies_true, true_implies, false_implies] <;> omega)), ht⟩) (fun _ h => absurd h List.not_mem_nil) dX6_hasScene_17
  · skip
    have tc_1 : ¬ k.toInt < 0 := fun h => c_1 ((fa_lt _ _).mpr h)
    refine lv_iload_n hx hb dX6_hasScene_4 rfl (lv_at hl 1 rfl) ?_
    refine lv_aload_n hx hb dX6_hasScene_5 rfl (lv_at hl 0 rfl) ?_
    refine va_get (D := (dC, dI)) (ci := 4) (v := .int sc) (C := RX6) (T := TX6) (N := 9) hx hb hts inX6 hown hK hP 0 rfl rfl 6 (by decide) (hts _ (List.mem_of_getElem? (i := 1) rfl)) (fun _ h9 => h9) rfl dX6_hasScene_6 ?_
    have rc_2_x := pp_rng k
    have rc_2_y := pp_rng sc
    refine lv_icmp_ge (tgt := 16) hx hb dX6_hasScene_9 (by decide) (fun c_2 => ?_) (fun c_2 => ?_)
    · skip
      have tc_2 : sc.toInt ≤ k.toInt := (fa_le _ _).mp c_2
      refine lv_iconst (v := 0) hx hb dX6_hasScene_16 (by decide) ?_
      exact W.zret (v := (0 : Int32)) hx hb hr (by decide) (fun t ht hW => ⟨(0 : Int32), rfl, (by first | omega | decide | (simp only [fa_lt, fa_le, fa_eq, and_true, true_and, and_false, false_and, not_true_eq_false, not_false_eq_true, li_0, li_1, li_2, li_3, li_4, li_5, li_6, li_7, li_8, li_9, li_10, li_12, li_15, li_16, li_20, li_30, li_34, li_38, li_40, li_63, li_64, li_65, li_78, li_120, li_1000, li_4000, li_10000, li_11077, li_255, li_65535, li_m1, li_m2, li_m1000000001, li_m1000000002, li_m1000000003, li_m1000000004, li_m1000000005, li_m1000000006, li_m1000000007, or_true, true_or, or_false, false_or, implies_true, true_implies, false_implies] <;> omega)), ht⟩) (fun _ h => absurd h List.not_mem_nil) dX6_hasScene_17
    · skip
      have tc_2 : ¬ sc.toInt ≤ k.toInt := fun h => c_2 ((fa_le _ _).mpr h)
      refine lv_iconst (v := 1) hx hb dX6_hasScene_12 (by decide) ?_
      refine lv_goto (tgt := 17) hx hb dX6_hasScene_13 (by decide) ?_
      exact W.zret (v := (1 : Int32)) hx hb hr (by decide) (fun t ht hW => ⟨(1 : Int32), rfl, (by first | omega | decide | (simp only [fa_lt, fa_le, fa_eq, and_true, true_and, and_false, false_and, not_true_eq_false, not_false_eq_true, li_0, li_1, li_2, li_3, li_4, li_5, li_6, li_7, li_8, li_9, li_10, li_12, li_15, li_16, li_20, li_30, li_34, li_38, li_40, li_63, li_64, li_65, li_78, li_120, li_1000, li_4000, li_10000, li_11077, li_255, li_65535, li_m1, li_m2, li_m1000000001, li_m1000000002, li_m1000000003, li_m1000000004, li_m1000000005, li_m1000000006, li_m1000000007, or_true, true_or, or_false, false_or, implies_true, true_implies, false_implies] <;> omega)), ht⟩) (fun _ h => absurd h List.not_mem_nil) dX6_hasScene_17

def w_s_hasRoomForScene : List Cond := .code yX6_hasRoomForScene cX6_hasRoomForScene 1 (some .boolean) :: (([.fieldLink RX6 31 "LampShapes$Stage" "scenes" "I"] : List Cond) ++ wsX60)
set_option maxHeartbeats 4000000 in
set_option maxRecDepth 100000 in
theorem s_hasRoomForScene (l : Launch) (dC : Nat → ClassId) (dI : Nat → Nat → Nat) (ad : Nat → Nat) (h0 : Nat) (w0 : Value) (w1 : Value) (w2 : Value) (w3 : Value) (w4 : Value) (w5 : Value) (sc : Int32) (w7 : Value) (w8 : Value) : Met l yX6_hasRoomForScene w_s_hasRoomForScene ({ frames := 0, cells := 0, slots := 0, locals := 0 } : Room) (va_Pc [.ref h0] (preS dC dI ad [] [(h0, .inr (4, [w0, w1, w2, w3, w4, w5, .int sc, w7, w8]))])) (vp_Si (fun r => (r.toInt = 1 ∧ sc.toInt < 7) ∨ r.toInt = 0)) 0 0 (fun _ => False) := by
  refine Met.ofW (cc := cX6_hasRoomForScene) (maxL := 1) (ret := (some .boolean)) (by decide) rfl ?_
  intro p e s m args below meth c s₁ B hml hv
  obtain ⟨rfl, hP, hK, hev⟩ := hv
  have hx := B.exec
  have hb := B.bytes
  have hr := B.returns
  have hts := atoms_spec (ws := w_s_hasRoomForScene) B.pre
  have hown : s.vm.findClass RX6 = some m.cls := findClass_of_methodNamed B.named
  have hlocks := B.notSynchronized
  have inX6 : ∀ w ∈ wsX60, w ∈ w_s_hasRoomForScene := fun w h => List.mem_cons_of_mem _ (List.mem_append_right _ h)
  have hP : va_P (dC, dI) vwCl [(h0, .inr (4, [w0, w1, w2, w3, w4, w5, .int sc, w7, w8]))] s.heap := hP
  have hl := lv_entry ([.ref h0]) (n := 1) (Nat.le_of_ble_eq_true rfl)
  rw [lg_entry_eq]
  generalize (lg_sl ([.ref h0]) ++ List.replicate (1 - (lg_sl ([.ref h0])).length) Slot.unset).toArray = ls at hl ⊢
  have hl : lv_has ls 1 [(0, .ref h0)] := hl
  refine lv_aload_n hx hb dX6_hasRoomForScene_0 rfl (lv_at hl 0 rfl) ?_
  refine va_get (D := (dC, dI)) (ci := 4) (v := .int sc) (C := RX6) (T := TX6) (N := 9) hx hb hts inX6 hown hK hP 0 rfl rfl 6 (by decide) (hts _ (List.mem_of_getElem? (i := 1) rfl)) (fun _ h9 => h9) rfl dX6_hasRoomForScene_1 ?_
  refine lv_bipush (v := 7) hx hb dX6_hasRoomForScene_4 (by decide) ?_
  refine lv_icmp_ge (tgt := 13) hx hb dX6_hasRoomForScene_6 (by decide) (fun c_1 => ?_) (fun c_1 => ?_)
  · skip
    have tc_1 : 7 ≤ sc.toInt := (fa_le _ _).mp c_1
    refine lv_iconst (v := 0) hx hb dX6_hasRoomForScene_13 (by decide) ?_
    exact W.zret (v := (0 : Int32)) hx hb hr (by decide) (fun t ht hW => ⟨(0 : Int32), rfl, (by first | omega | decide | (simp only [fa_lt, fa_le, fa_eq, and_true, true_and, and_false, false_and, not_true_eq_false, not_false_eq_true, li_0, li_1, li_2, li_3, li_4, li_5, li_6, li_7, li_8, li_9, li_10, li_12, li_15, li_16, li_20, li_30, li_34, li_38, li_40, li_63, li_64, li_65, li_78, li_120, li_1000, li_4000, li_10000, li_11077, li_255, li_65535, li_m1, li_m2, li_m1000000001, li_m1000000002, li_m1000000003, li_m1000000004, li_m1000000005, li_m1000000006, li_m1000000007, or_true, true_or, or_false, false_or, implies_true, true_implies, false_implies] <;> omega)), ht⟩) (fun _ h => absurd h List.not_mem_nil) dX6_hasRoomForScene_14
  · skip
    have tc_1 : ¬ 7 ≤ sc.toInt := fun h => c_1 ((fa_le _ _).mpr h)
    refine lv_iconst (v := 1) hx hb dX6_hasRoomForScene_9 (by decide) ?_
    refine lv_goto (tgt := 14) hx hb dX6_hasRoomForScene_10 (by decide) ?_
    exact W.zret (v := (1 : Int32)) hx hb hr (by decide) (fun t ht hW => ⟨(1 : Int32), rfl, (by first | omega | decide | (simp only [fa_lt, fa_le, fa_eq, and_true, true_and, and_false, false_and, not_true_eq_false, not_false_eq_true, li_0, li_1, li_2, li_3, li_4, li_5, li_6, li_7, li_8, li_9, li_10, li_12, li_15, li_16, li_20, li_30, li_34, li_38, li_40, li_63, li_64, li_65, li_78, li_120, li_1000, li_4000, li_10000, li_11077, li_255, li_65535, li_m1, li_m2, li_m1000000001, li_m1000000002, li_m1000000003, li_m1000000004, li_m1000000005, li_m1000000006, li_m1000000007, or_true, true_or, or_false, false_or, implies_true, true_implies, false_implies] <;> omega)), ht⟩) (fun _ h => absurd h List.not_mem_nil) dX6_hasRoomForScene_14

def w_s_addShape : List Cond := .code yX6_addShape cX6_addShape 3 (some .int) :: (([.fieldLink RX6 15 "LampShapes$Stage" "kinds" "[I", .fieldLink RX6 9 "LampShapes$Stage" "shapes" "I", .fieldLink RX6 19 "LampShapes$Stage" "points" "[I"] : List Cond) ++ wsX60)
set_option maxHeartbeats 4000000 in
set_option maxRecDepth 100000 in
theorem s_addShape (l : Launch) (dC : Nat → ClassId) (dI : Nat → Nat → Nat) (ad : Nat → Nat) (h0 : Nat) (a : Int32) (b : Int32) (sh : Int32) (q1 : Nat) (q2 : Nat) (w3 : Value) (w4 : Value) (w5 : Value) (w6 : Value) (w7 : Value) (w8 : Value) (c1 : ClassId) (f1 : Nat → Int32) (c2 : ClassId) (f2 : Nat → Int32) (sz : Nat) (hsh : 0 ≤ sh.toInt ∧ sh.toInt < 9) : Met l yX6_addShape w_s_addShape ({ frames := 0, cells := 0, slots := 0, locals := 0 } : Room) (va_Pc [.ref h0, .int a, .int b] (preM dC dI ad [(c1, .int), (c2, .int)] [(h0, .inr (4, [.int sh, .ref q1, .ref q2, w3, w4, w5, w6, w7, w8])), (q1, .inl (c1, 9, .inl f1)), (q2, .inl (c2, 9, .inl f2))] sz)) (va_Qi (fun (r : Int32) (_ : Unit) => True) (fun _ t => ∃ (sh2 : Int32), ∃ (g1 : Nat → Int32), ∃ (g2 : Nat → Int32), (sh2.toInt = sh.toInt + 1) ∧ va_P (dC, dI) vwCl [(h0, .inr (4, [.int sh2, .ref q1, .ref q2, w3, w4, w5, w6, w7, w8])), (q1, .inl (c1, 9, .inl g1)), (q2, .inl (c2, 9, .inl g2))] t.heap ∧ va_K (dC, dI) vwCl [(c1, .int), (c2, .int)] t ∧ va_D (va_A [(h0, .inr (4, [.int sh, .ref q1, .ref q2, w3, w4, w5, w6, w7, w8])), (q1, .inl (c1, 9, .inl f1)), (q2, .inl (c2, 9, .inl f2))] sz) [(h0, .inr (4, [.int sh2, .ref q1, .ref q2, w3, w4, w5, w6, w7, w8])), (q1, .inl (c1, 9, .inl g1)), (q2, .inl (c2, 9, .inl g2))]) (va_A [(h0, .inr (4, [.int sh, .ref q1, .ref q2, w3, w4, w5, w6, w7, w8])), (q1, .inl (c1, 9, .inl f1)), (q2, .inl (c2, 9, .inl f2))] sz)) 0 0 (va_A [(h0, .inr (4, [.int sh, .ref q1, .ref q2, w3, w4, w5, w6, w7, w8])), (q1, .inl (c1, 9, .inl f1)), (q2, .inl (c2, 9, .inl f2))] sz) := by
  refine Met.ofW (cc := cX6_addShape) (maxL := 3) (ret := (some .int)) (by decide) rfl ?_
  intro p e s m args below meth c s₁ B hml hv
  obtain ⟨rfl, hsz, hP, hK, hD0, hev⟩ := hv
  have hx := B.exec
  have hb := B.bytes
  have hr := B.returns
  have hts := atoms_spec (ws := w_s_addShape) B.pre
  have hown : s.vm.findClass RX6 = some m.cls := findClass_of_methodNamed B.named
  have hlocks := B.notSynchronized
  have inX6 : ∀ w ∈ wsX60, w ∈ w_s_addShape := fun w h => List.mem_cons_of_mem _ (List.mem_append_right _ h)
  subst hsz
  have hD := hD0.self (sz := s.heap.size)
  generalize hAe : va_A [(h0, .inr (4, [.int sh, .ref q1, .ref q2, w3, w4, w5, w6, w7, w8])), (q1, .inl (c1, 9, .inl f1)), (q2, .inl (c2, 9, .inl f2))] s.heap.size = A at hD ⊢
  have hA : ∀ q : Nat, s.heap.size ≤ q → A q := fun q h => by rw [← hAe]; exact Or.inr h
  have hS : va_S A s.heap s.heap [] := va_S.rf
  have hP : va_P (dC, dI) vwCl [(h0, .inr (4, [.int sh, .ref q1, .ref q2, w3, w4, w5, w6, w7, w8])), (q1, .inl (c1, 9, .inl f1)), (q2, .inl (c2, 9, .inl f2))] s.heap := hP
  have hl := lv_entry ([.ref h0, .int a, .int b]) (n := 3) (Nat.le_of_ble_eq_true rfl)
  rw [lg_entry_eq]
  generalize (lg_sl ([.ref h0, .int a, .int b]) ++ List.replicate (3 - (lg_sl ([.ref h0, .int a, .int b])).length) Slot.unset).toArray = ls at hl ⊢
  have hl : lv_has ls 3 [(0, .ref h0), (1, .int a), (2, .int b)] := hl
  refine lv_aload_n hx hb dX6_addShape_0 rfl (lv_at hl 0 rfl) ?_
  refine va_get (D := (dC, dI)) (ci := 4) (v := .ref q1) (C := RX6) (T := TX6) (N := 9) hx hb hts inX6 hown hK hP 0 rfl rfl 1 (by decide) (hts _ (List.mem_of_getElem? (i := 1) rfl)) (fun _ h9 => h9) rfl dX6_addShape_1 ?_
  refine lv_aload_n hx hb dX6_addShape_4 rfl (lv_at hl 0 rfl) ?_
  refine va_get (D := (dC, dI)) (ci := 4) (v := .int sh) (C := RX6) (T := TX6) (N := 9) hx hb hts inX6 hown hK hP 0 rfl rfl 0 (by decide) (hts _ (List.mem_of_getElem? (i := 2) rfl)) (fun _ h9 => h9) rfl dX6_addShape_5 ?_
  refine lv_iload_n hx hb dX6_addShape_8 rfl (lv_at hl 1 rfl) ?_
  refine va_iast hx hb hK hP hD hS 1 0 rfl rfl (vp_in_iff.mpr ⟨by omega, by omega⟩) dX6_addShape_9 (fun H locs hP hD hS => ?_)
  have hP : va_P (dC, dI) vwCl [(h0, .inr (4, [.int sh, .ref q1, .ref q2, w3, w4, w5, w6, w7, w8])), (q1, .inl (c1, 9, .inl (upd f1 sh.toNatClampNeg a))), (q2, .inl (c2, 9, .inl f2))] H := hP
  have hD : va_D A [(h0, .inr (4, [.int sh, .ref q1, .ref q2, w3, w4, w5, w6, w7, w8])), (q1, .inl (c1, 9, .inl (upd f1 sh.toNatClampNeg a))), (q2, .inl (c2, 9, .inl f2))] := hD
  refine lv_aload_n hx hb dX6_addShape_10 rfl (lv_at hl 0 rfl) ?_
  refine va_get (D := (dC, dI)) (ci := 4) (v := .ref q2) (C := RX6) (T := TX6) (N := 9) hx hb hts inX6 hown hK hP 0 rfl rfl 2 (by decide) (hts _ (List.mem_of_getElem? (i := 3) rfl)) (fun _ h9 => h9) rfl dX6_addShape_11 ?_
  refine lv_aload_n hx hb dX6_addShape_14 rfl (lv_at hl 0 rfl) ?_
  refine va_get (D := (dC, dI)) (ci := 4) (v := .int sh) (C := RX6) (T := TX6) (N := 9) hx hb hts inX6 hown hK hP 0 rfl rfl 0 (by decide) (hts _ (List.mem_of_getElem? (i := 2) rfl)) (fun _ h9 => h9) rfl dX6_addShape_15 ?_
  refine lv_iload_n hx hb dX6_addShape_18 rfl (lv_at hl 2 rfl) ?_
  refine va_iast hx hb hK hP hD hS 2 1 rfl rfl (vp_in_iff.mpr ⟨by omega, by omega⟩) dX6_addShape_19 (fun H locs hP hD hS => ?_)
  have hP : va_P (dC, dI) vwCl [(h0, .inr (4, [.int sh, .ref q1, .ref q2, w3, w4, w5, w6, w7, w8])), (q1, .inl (c1, 9, .inl (upd f1 sh.toNatClampNeg a))), (q2, .inl (c2, 9, .inl (upd f2 sh.toNatClampNeg b)))] H := hP
  have hD : va_D A [(h0, .inr (4, [.int sh, .ref q1, .ref q2, w3, w4, w5, w6, w7, w8])), (q1, .inl (c1, 9, .inl (upd f1 sh.toNatClampNeg a))), (q2, .inl (c2, 9, .inl (upd f2 sh.toNatClampNeg b)))] := hD
  refine lv_aload_n hx hb dX6_addShape_20 rfl (lv_at hl 0 rfl) ?_
  refine lv_dup hx hb dX6_addShape_21 rfl ?_
  refine va_get (D := (dC, dI)) (ci := 4) (v := .int sh) (C := RX6) (T := TX6) (N := 9) hx hb hts inX6 hown hK hP 0 rfl rfl 0 (by decide) (hts _ (List.mem_of_getElem? (i := 2) rfl)) (fun _ h9 => h9) rfl dX6_addShape_22 ?_
  refine lv_iconst (v := 1) hx hb dX6_addShape_25 (by decide) ?_
  refine lv_iadd hx hb dX6_addShape_26 ?_
  refine lv_topi (fun n_1 en_1 => ?_)
  have tn_1 : n_1.toInt = sh.toInt + 1 := pp_add en_1 rfl rfl (by omega) (by omega)
  clear en_1
  refine va_put (D := (dC, dI)) (ci := 4) (v := .int n_1) (ty := .int) (C := RX6) (T := TX6) (N := 9) hx hb hts inX6 tyX6 tyX6_ok nmX6 hown hK hP hD hS 0 rfl rfl 0 (by decide) (hts _ (List.mem_of_getElem? (i := 2) rfl)) (fun _ h9 => h9) rfl (by decide +kernel) rfl rfl (Nat.le_of_ble_eq_true rfl) dX6_addShape_27 (fun H locs hP hD hS => ?_)
  have hP : va_P (dC, dI) vwCl [(h0, .inr (4, [.int n_1, .ref q1, .ref q2, w3, w4, w5, w6, w7, w8])), (q1, .inl (c1, 9, .inl (upd f1 sh.toNatClampNeg a))), (q2, .inl (c2, 9, .inl (upd f2 sh.toNatClampNeg b)))] H := hP
  have hD : va_D A [(h0, .inr (4, [.int n_1, .ref q1, .ref q2, w3, w4, w5, w6, w7, w8])), (q1, .inl (c1, 9, .inl (upd f1 sh.toNatClampNeg a))), (q2, .inl (c2, 9, .inl (upd f2 sh.toNatClampNeg b)))] := hD
  refine lv_aload_n hx hb dX6_addShape_30 rfl (lv_at hl 0 rfl) ?_
  refine va_get (D := (dC, dI)) (ci := 4) (v := .int n_1) (C := RX6) (T := TX6) (N := 9) hx hb hts inX6 hown hK hP 0 rfl rfl 0 (by decide) (hts _ (List.mem_of_getElem? (i := 2) rfl)) (fun _ h9 => h9) rfl dX6_addShape_31 ?_
  refine lv_iconst (v := 1) hx hb dX6_addShape_34 (by decide) ?_
  refine lv_isub hx hb dX6_addShape_35 ?_
  refine lv_topi (fun n_2 en_2 => ?_)
  have tn_2 : n_2.toInt = n_1.toInt - 1 := pp_sub en_2 rfl rfl (by omega) (by omega)
  clear en_2
  have hP9 := hP.sub (ws' := [(h0, .inr (4, [.int n_1, .ref q1, .ref q2, w3, w4, w5, w6, w7, w8])), (q1, .inl (c1, 9, .inl (upd f1 sh.toNatClampNeg a))), (q2, .inl (c2, 9, .inl (upd f2 sh.toNatClampNeg b)))]) [0, 1, 2] rfl
  have hD9 := hD.sub (ws' := [(h0, .inr (4, [.int n_1, .ref q1, .ref q2, w3, w4, w5, w6, w7, w8])), (q1, .inl (c1, 9, .inl (upd f1 sh.toNatClampNeg a))), (q2, .inl (c2, 9, .inl (upd f2 sh.toNatClampNeg b)))]) [0, 1, 2] (by decide) rfl
  have hK9 := hK.sub (tys' := [(c1, .int), (c2, .int)]) [0, 1] rfl
  exact W.iret (v := n_2) hx hb hr (fun t ht hW => ⟨⟨n_2, (), rfl, trivial, n_1, upd f1 sh.toNatClampNeg a, upd f2 sh.toNatClampNeg b, (by first | omega | decide | (simp only [fa_lt, fa_le, fa_eq, and_true, true_and, and_false, false_and, not_true_eq_false, not_false_eq_true, li_0, li_1, li_2, li_3, li_4, li_5, li_6, li_7, li_8, li_9, li_10, li_12, li_15, li_16, li_20, li_30, li_34, li_38, li_40, li_63, li_64, li_65, li_78, li_120, li_1000, li_4000, li_10000, li_11077, li_255, li_65535, li_m1, li_m2, li_m1000000001, li_m1000000002, li_m1000000003, li_m1000000004, li_m1000000005, li_m1000000006, li_m1000000007, or_true, true_or, or_false, false_or, implies_true, true_implies, false_implies] <;> omega)), by rw [ht]; exact hP9, va_K.moved hW.alike hK9, hD9⟩, hS.F ht⟩) hS.2.2 dX6_addShape_36

def w_s_addScene : List Cond := .code yX6_addScene cX6_addScene 3 (some .int) :: (([.fieldLink RX6 34 "LampShapes$Stage" "pictures" "[J", .fieldLink RX6 31 "LampShapes$Stage" "scenes" "I"] : List Cond) ++ wsX60)
set_option maxHeartbeats 4000000 in
set_option maxRecDepth 100000 in
theorem s_addScene (l : Launch) (dC : Nat → ClassId) (dI : Nat → Nat → Nat) (ad : Nat → Nat) (h0 : Nat) (a : Int64) (w0 : Value) (w1 : Value) (w2 : Value) (w3 : Value) (w4 : Value) (w5 : Value) (sc : Int32) (q5 : Nat) (w8 : Value) (c5 : ClassId) (f5 : Nat → Int64) (sz : Nat) (hsc : 0 ≤ sc.toInt ∧ sc.toInt < 7) : Met l yX6_addScene w_s_addScene ({ frames := 0, cells := 0, slots := 0, locals := 0 } : Room) (va_Pc [.ref h0, .long a] (preM dC dI ad [(c5, .long)] [(h0, .inr (4, [w0, w1, w2, w3, w4, w5, .int sc, .ref q5, w8])), (q5, .inl (c5, 7, .inr (.inl f5)))] sz)) (va_Qi (fun (r : Int32) (_ : Unit) => True) (fun _ t => ∃ (sc2 : Int32), ∃ (g5 : Nat → Int64), (sc2.toInt = sc.toInt + 1) ∧ va_P (dC, dI) vwCl [(h0, .inr (4, [w0, w1, w2, w3, w4, w5, .int sc2, .ref q5, w8])), (q5, .inl (c5, 7, .inr (.inl g5)))] t.heap ∧ va_K (dC, dI) vwCl [(c5, .long)] t ∧ va_D (va_A [(h0, .inr (4, [w0, w1, w2, w3, w4, w5, .int sc, .ref q5, w8])), (q5, .inl (c5, 7, .inr (.inl f5)))] sz) [(h0, .inr (4, [w0, w1, w2, w3, w4, w5, .int sc2, .ref q5, w8])), (q5, .inl (c5, 7, .inr (.inl g5)))]) (va_A [(h0, .inr (4, [w0, w1, w2, w3, w4, w5, .int sc, .ref q5, w8])), (q5, .inl (c5, 7, .inr (.inl f5)))] sz)) 0 0 (va_A [(h0, .inr (4, [w0, w1, w2, w3, w4, w5, .int sc, .ref q5, w8])), (q5, .inl (c5, 7, .inr (.inl f5)))] sz) := by
  refine Met.ofW (cc := cX6_addScene) (maxL := 3) (ret := (some .int)) (by decide) rfl ?_
  intro p e s m args below meth c s₁ B hml hv
  obtain ⟨rfl, hsz, hP, hK, hD0, hev⟩ := hv
  have hx := B.exec
  have hb := B.bytes
  have hr := B.returns
  have hts := atoms_spec (ws := w_s_addScene) B.pre
  have hown : s.vm.findClass RX6 = some m.cls := findClass_of_methodNamed B.named
  have hlocks := B.notSynchronized
  have inX6 : ∀ w ∈ wsX60, w ∈ w_s_addScene := fun w h => List.mem_cons_of_mem _ (List.mem_append_right _ h)
  subst hsz
  have hD := hD0.self (sz := s.heap.size)
  generalize hAe : va_A [(h0, .inr (4, [w0, w1, w2, w3, w4, w5, .int sc, .ref q5, w8])), (q5, .inl (c5, 7, .inr (.inl f5)))] s.heap.size = A at hD ⊢
  have hA : ∀ q : Nat, s.heap.size ≤ q → A q := fun q h => by rw [← hAe]; exact Or.inr h
  have hS : va_S A s.heap s.heap [] := va_S.rf
  have hP : va_P (dC, dI) vwCl [(h0, .inr (4, [w0, w1, w2, w3, w4, w5, .int sc, .ref q5, w8])), (q5, .inl (c5, 7, .inr (.inl f5)))] s.heap := hP
  have hl := lv_entry ([.ref h0, .long a]) (n := 3) (Nat.le_of_ble_eq_true rfl)
  rw [lg_entry_eq]
  generalize (lg_sl ([.ref h0, .long a]) ++ List.replicate (3 - (lg_sl ([.ref h0, .long a])).length) Slot.unset).toArray = ls at hl ⊢
  have hl : lv_has ls 3 [(0, .ref h0), (1, .long a)] := hl
  refine lv_aload_n hx hb dX6_addScene_0 rfl (lv_at hl 0 rfl) ?_
  refine va_get (D := (dC, dI)) (ci := 4) (v := .ref q5) (C := RX6) (T := TX6) (N := 9) hx hb hts inX6 hown hK hP 0 rfl rfl 7 (by decide) (hts _ (List.mem_of_getElem? (i := 1) rfl)) (fun _ h9 => h9) rfl dX6_addScene_1 ?_
  refine lv_aload_n hx hb dX6_addScene_4 rfl (lv_at hl 0 rfl) ?_
  refine va_get (D := (dC, dI)) (ci := 4) (v := .int sc) (C := RX6) (T := TX6) (N := 9) hx hb hts inX6 hown hK hP 0 rfl rfl 6 (by decide) (hts _ (List.mem_of_getElem? (i := 2) rfl)) (fun _ h9 => h9) rfl dX6_addScene_5 ?_
  refine lv_lload_n hx hb dX6_addScene_8 rfl (lv_at hl 1 rfl) ?_
  refine va_last hx hb hK hP hD hS 1 0 rfl rfl (vp_in_iff.mpr ⟨by omega, by omega⟩) dX6_addScene_9 (fun H locs hP hD hS => ?_)
  have hP : va_P (dC, dI) vwCl [(h0, .inr (4, [w0, w1, w2, w3, w4, w5, .int sc, .ref q5, w8])), (q5, .inl (c5, 7, .inr (.inl (vp_updL f5 sc.toNatClampNeg a))))] H := hP
  have hD : va_D A [(h0, .inr (4, [w0, w1, w2, w3, w4, w5, .int sc, .ref q5, w8])), (q5, .inl (c5, 7, .inr (.inl (vp_updL f5 sc.toNatClampNeg a))))] := hD
  refine lv_aload_n hx hb dX6_addScene_10 rfl (lv_at hl 0 rfl) ?_
  refine lv_dup hx hb dX6_addScene_11 rfl ?_
  refine va_get (D := (dC, dI)) (ci := 4) (v := .int sc) (C := RX6) (T := TX6) (N := 9) hx hb hts inX6 hown hK hP 0 rfl rfl 6 (by decide) (hts _ (List.mem_of_getElem? (i := 2) rfl)) (fun _ h9 => h9) rfl dX6_addScene_12 ?_
  refine lv_iconst (v := 1) hx hb dX6_addScene_15 (by decide) ?_
  refine lv_iadd hx hb dX6_addScene_16 ?_
  refine lv_topi (fun n_1 en_1 => ?_)
  have tn_1 : n_1.toInt = sc.toInt + 1 := pp_add en_1 rfl rfl (by omega) (by omega)
  clear en_1
  refine va_put (D := (dC, dI)) (ci := 4) (v := .int n_1) (ty := .int) (C := RX6) (T := TX6) (N := 9) hx hb hts inX6 tyX6 tyX6_ok nmX6 hown hK hP hD hS 0 rfl rfl 6 (by decide) (hts _ (List.mem_of_getElem? (i := 2) rfl)) (fun _ h9 => h9) rfl (by decide +kernel) rfl rfl (Nat.le_of_ble_eq_true rfl) dX6_addScene_17 (fun H locs hP hD hS => ?_)
  have hP : va_P (dC, dI) vwCl [(h0, .inr (4, [w0, w1, w2, w3, w4, w5, .int n_1, .ref q5, w8])), (q5, .inl (c5, 7, .inr (.inl (vp_updL f5 sc.toNatClampNeg a))))] H := hP
  have hD : va_D A [(h0, .inr (4, [w0, w1, w2, w3, w4, w5, .int n_1, .ref q5, w8])), (q5, .inl (c5, 7, .inr (.inl (vp_updL f5 sc.toNatClampNeg a))))] := hD
  refine lv_aload_n hx hb dX6_addScene_20 rfl (lv_at hl 0 rfl) ?_
  refine va_get (D := (dC, dI)) (ci := 4) (v := .int n_1) (C := RX6) (T := TX6) (N := 9) hx hb hts inX6 hown hK hP 0 rfl rfl 6 (by decide) (hts _ (List.mem_of_getElem? (i := 2) rfl)) (fun _ h9 => h9) rfl dX6_addScene_21 ?_
  refine lv_iconst (v := 1) hx hb dX6_addScene_24 (by decide) ?_
  refine lv_isub hx hb dX6_addScene_25 ?_
  refine lv_topi (fun n_2 en_2 => ?_)
  have tn_2 : n_2.toInt = n_1.toInt - 1 := pp_sub en_2 rfl rfl (by omega) (by omega)
  clear en_2
  have hP9 := hP.sub (ws' := [(h0, .inr (4, [w0, w1, w2, w3, w4, w5, .int n_1, .ref q5, w8])), (q5, .inl (c5, 7, .inr (.inl (vp_updL f5 sc.toNatClampNeg a))))]) [0, 1] rfl
  have hD9 := hD.sub (ws' := [(h0, .inr (4, [w0, w1, w2, w3, w4, w5, .int n_1, .ref q5, w8])), (q5, .inl (c5, 7, .inr (.inl (vp_updL f5 sc.toNatClampNeg a))))]) [0, 1] (by decide) rfl
  have hK9 := hK.sub (tys' := [(c5, .long)]) [0] rfl
  exact W.iret (v := n_2) hx hb hr (fun t ht hW => ⟨⟨n_2, (), rfl, trivial, n_1, vp_updL f5 sc.toNatClampNeg a, (by first | omega | decide | (simp only [fa_lt, fa_le, fa_eq, and_true, true_and, and_false, false_and, not_true_eq_false, not_false_eq_true, li_0, li_1, li_2, li_3, li_4, li_5, li_6, li_7, li_8, li_9, li_10, li_12, li_15, li_16, li_20, li_30, li_34, li_38, li_40, li_63, li_64, li_65, li_78, li_120, li_1000, li_4000, li_10000, li_11077, li_255, li_65535, li_m1, li_m2, li_m1000000001, li_m1000000002, li_m1000000003, li_m1000000004, li_m1000000005, li_m1000000006, li_m1000000007, or_true, true_or, or_false, false_or, implies_true, true_implies, false_implies] <;> omega)), by rw [ht]; exact hP9, va_K.moved hW.alike hK9, hD9⟩, hS.F ht⟩) hS.2.2 dX6_addScene_26

def w_s_isTorn : List Cond := .code yX6_isTorn cX6_isTorn 2 (some .boolean) :: (([.fieldLink RX6 22 "LampShapes$Stage" "tornShapes" "I"] : List Cond) ++ wsX60)
set_option maxHeartbeats 4000000 in
set_option maxRecDepth 100000 in
theorem s_isTorn (l : Launch) (dC : Nat → ClassId) (dI : Nat → Nat → Nat) (ad : Nat → Nat) (h0 : Nat) (k : Int32) (w0 : Value) (w1 : Value) (w2 : Value) (tn : Int32) (w4 : Value) (w5 : Value) (w6 : Value) (w7 : Value) (w8 : Value) : Met l yX6_isTorn w_s_isTorn ({ frames := 0, cells := 0, slots := 0, locals := 0 } : Room) (va_Pc [.ref h0, .int k] (preS dC dI ad [] [(h0, .inr (4, [w0, w1, w2, .int tn, w4, w5, w6, w7, w8]))])) (vp_Si (fun r => True)) 0 0 (fun _ => False) := by
  refine Met.ofW (cc := cX6_isTorn) (maxL := 2) (ret := (some .boolean)) (by decide) rfl ?_
  intro p e s m args below meth c s₁ B hml hv
  obtain ⟨rfl, hP, hK, hev⟩ := hv
  have hx := B.exec
  have hb := B.bytes
  have hr := B.returns
  have hts := atoms_spec (ws := w_s_isTorn) B.pre
  have hown : s.vm.findClass RX6 = some m.cls := findClass_of_methodNamed B.named
  have hlocks := B.notSynchronized
  have inX6 : ∀ w ∈ wsX60, w ∈ w_s_isTorn := fun w h => List.mem_cons_of_mem _ (List.mem_append_right _ h)
  have hP : va_P (dC, dI) vwCl [(h0, .inr (4, [w0, w1, w2, .int tn, w4, w5, w6, w7, w8]))] s.heap := hP
  have hl := lv_entry ([.ref h0, .int k]) (n := 2) (Nat.le_of_ble_eq_true rfl)
  rw [lg_entry_eq]
  generalize (lg_sl ([.ref h0, .int k]) ++ List.replicate (2 - (lg_sl ([.ref h0, .int k])).length) Slot.unset).toArray = ls at hl ⊢
  have hl : lv_has ls 2 [(0, .ref h0), (1, .int k)] := hl
  refine lv_aload_n hx hb dX6_isTorn_0 rfl (lv_at hl 0 rfl) ?_
  refine va_get (D := (dC, dI)) (ci := 4) (v := .int tn) (C := RX6) (T := TX6) (N := 9) hx hb hts inX6 hown hK hP 0 rfl rfl 3 (by decide) (hts _ (List.mem_of_getElem? (i := 1) rfl)) (fun _ h9 => h9) rfl dX6_isTorn_1 ?_
  refine lv_iload_n hx hb dX6_isTorn_4 rfl (lv_at hl 1 rfl) ?_
  refine lv_ishr hx hb dX6_isTorn_5 ?_
  refine lv_topi (fun n_1 en_1 => ?_)
  clear en_1
  refine lv_iconst (v := 1) hx hb dX6_isTorn_6 (by decide) ?_
  refine lv_iand hx hb dX6_isTorn_7 ?_
  refine lv_topi (fun n_2 en_2 => ?_)
  clear en_2
  refine lv_iconst (v := 1) hx hb dX6_isTorn_8 (by decide) ?_
  refine lv_icmp_ne (tgt := 16) hx hb dX6_isTorn_9 (by decide) (fun c_3 => ?_) (fun c_3 => ?_)
  · skip
    have tc_3 : ¬ n_2.toInt = 1 := fun h => c_3 ((fa_eq _ _).mpr h)
    refine lv_iconst (v := 0) hx hb dX6_isTorn_16 (by decide) ?_
    exact W.zret (v := (0 : Int32)) hx hb hr (by decide) (fun t ht hW => ⟨(0 : Int32), rfl, trivial, ht⟩) (fun _ h => absurd h List.not_mem_nil) dX6_isTorn_17
  · skip
    have tc_3 : n_2.toInt = 1 := (fa_eq _ _).mp c_3
    refine lv_iconst (v := 1) hx hb dX6_isTorn_12 (by decide) ?_
    refine lv_goto (tgt := 17) hx hb dX6_isTorn_13 (by decide) ?_
    exact W.zret (v := (1 : Int32)) hx hb hr (by decide) (fun t ht hW => ⟨(1 : Int32), rfl, trivial, ht⟩) (fun _ h => absurd h List.not_mem_nil) dX6_isTorn_17

def w_s_setTorn : List Cond := .code yX6_setTorn cX6_setTorn 3 none :: (([.fieldLink RX6 22 "LampShapes$Stage" "tornShapes" "I"] : List Cond) ++ wsX60)
set_option maxHeartbeats 4000000 in
set_option maxRecDepth 100000 in
theorem s_setTorn (l : Launch) (dC : Nat → ClassId) (dI : Nat → Nat → Nat) (ad : Nat → Nat) (h0 : Nat) (k : Int32) (b : Int32) (w0 : Value) (w1 : Value) (w2 : Value) (tn : Int32) (w4 : Value) (w5 : Value) (w6 : Value) (w7 : Value) (w8 : Value) (sz : Nat) : Met l yX6_setTorn w_s_setTorn ({ frames := 0, cells := 0, slots := 0, locals := 0 } : Room) (va_Pc [.ref h0, .int k, .int b] (preM dC dI ad [] [(h0, .inr (4, [w0, w1, w2, .int tn, w4, w5, w6, w7, w8]))] sz)) (va_Qv (fun (_ : Unit) => True) (fun _ t => ∃ (tn2 : Int32), va_P (dC, dI) vwCl [(h0, .inr (4, [w0, w1, w2, .int tn2, w4, w5, w6, w7, w8]))] t.heap ∧ va_K (dC, dI) vwCl [] t ∧ va_D (va_A [(h0, .inr (4, [w0, w1, w2, .int tn, w4, w5, w6, w7, w8]))] sz) [(h0, .inr (4, [w0, w1, w2, .int tn2, w4, w5, w6, w7, w8]))]) (va_A [(h0, .inr (4, [w0, w1, w2, .int tn, w4, w5, w6, w7, w8]))] sz)) 0 0 (va_A [(h0, .inr (4, [w0, w1, w2, .int tn, w4, w5, w6, w7, w8]))] sz) := by
  refine Met.ofW (cc := cX6_setTorn) (maxL := 3) (ret := none) (by decide) rfl ?_
  intro p e s m args below meth c s₁ B hml hv
  obtain ⟨rfl, hsz, hP, hK, hD0, hev⟩ := hv
  have hx := B.exec
  have hb := B.bytes
  have hr := B.returns
  have hts := atoms_spec (ws := w_s_setTorn) B.pre
  have hown : s.vm.findClass RX6 = some m.cls := findClass_of_methodNamed B.named
  have hlocks := B.notSynchronized
  have inX6 : ∀ w ∈ wsX60, w ∈ w_s_setTorn := fun w h => List.mem_cons_of_mem _ (List.mem_append_right _ h)
  subst hsz
  have hD := hD0.self (sz := s.heap.size)
  generalize hAe : va_A [(h0, .inr (4, [w0, w1, w2, .int tn, w4, w5, w6, w7, w8]))] s.heap.size = A at hD ⊢
  have hA : ∀ q : Nat, s.heap.size ≤ q → A q := fun q h => by rw [← hAe]; exact Or.inr h
  have hS : va_S A s.heap s.heap [] := va_S.rf
  have hP : va_P (dC, dI) vwCl [(h0, .inr (4, [w0, w1, w2, .int tn, w4, w5, w6, w7, w8]))] s.heap := hP
  have hl := lv_entry ([.ref h0, .int k, .int b]) (n := 3) (Nat.le_of_ble_eq_true rfl)
  rw [lg_entry_eq]
  generalize (lg_sl ([.ref h0, .int k, .int b]) ++ List.replicate (3 - (lg_sl ([.ref h0, .int k, .int b])).length) Slot.unset).toArray = ls at hl ⊢
  have hl : lv_has ls 3 [(0, .ref h0), (1, .int k), (2, .int b)] := hl
  refine lv_aload_n hx hb dX6_setTorn_0 rfl (lv_at hl 0 rfl) ?_
  refine lv_iload_n hx hb dX6_setTorn_1 rfl (lv_at hl 2 rfl) ?_
  refine lv_if_eq (tgt := 16) hx hb dX6_setTorn_2 (by decide) (fun c_1 => ?_) (fun c_1 => ?_)
  · skip
    have tc_1 : b.toInt = 0 := (fa_eq _ _).mp c_1
    refine lv_aload_n hx hb dX6_setTorn_16 rfl (lv_at hl 0 rfl) ?_
    refine va_get (D := (dC, dI)) (ci := 4) (v := .int tn) (C := RX6) (T := TX6) (N := 9) hx hb hts inX6 hown hK hP 0 rfl rfl 3 (by decide) (hts _ (List.mem_of_getElem? (i := 1) rfl)) (fun _ h9 => h9) rfl dX6_setTorn_17 ?_
    refine lv_iconst (v := 1) hx hb dX6_setTorn_20 (by decide) ?_
    refine lv_iload_n hx hb dX6_setTorn_21 rfl (lv_at hl 1 rfl) ?_
    refine lv_ishl hx hb dX6_setTorn_22 ?_
    refine lv_topi (fun n_2 en_2 => ?_)
    clear en_2
    refine lv_iconst (v := (-1)) hx hb dX6_setTorn_23 (by decide) ?_
    refine lv_ixor hx hb dX6_setTorn_24 ?_
    refine lv_topi (fun n_3 en_3 => ?_)
    clear en_3
    refine lv_iand hx hb dX6_setTorn_25 ?_
    refine lv_topi (fun n_4 en_4 => ?_)
    clear en_4
    refine va_put (D := (dC, dI)) (ci := 4) (v := .int n_4) (ty := .int) (C := RX6) (T := TX6) (N := 9) hx hb hts inX6 tyX6 tyX6_ok nmX6 hown hK hP hD hS 0 rfl rfl 3 (by decide) (hts _ (List.mem_of_getElem? (i := 1) rfl)) (fun _ h9 => h9) rfl (by decide +kernel) rfl rfl (Nat.le_of_ble_eq_true rfl) dX6_setTorn_26 (fun H locs hP hD hS => ?_)
    have hP : va_P (dC, dI) vwCl [(h0, .inr (4, [w0, w1, w2, .int n_4, w4, w5, w6, w7, w8]))] H := hP
    have hD : va_D A [(h0, .inr (4, [w0, w1, w2, .int n_4, w4, w5, w6, w7, w8]))] := hD
    have hP9 := hP.sub (ws' := [(h0, .inr (4, [w0, w1, w2, .int n_4, w4, w5, w6, w7, w8]))]) [0] rfl
    have hD9 := hD.sub (ws' := [(h0, .inr (4, [w0, w1, w2, .int n_4, w4, w5, w6, w7, w8]))]) [0] (by decide) rfl
    have hK9 := hK.sub (tys' := []) [] rfl
    exact W.vret hx hb hr (fun t ht hW => ⟨⟨(), rfl, trivial, n_4, by rw [ht]; exact hP9, va_K.moved hW.alike hK9, hD9⟩, hS.F ht⟩) hS.2.2 dX6_setTorn_29
  · skip
    have tc_1 : ¬ b.toInt = 0 := fun h => c_1 ((fa_eq _ _).mpr h)
    refine lv_aload_n hx hb dX6_setTorn_5 rfl (lv_at hl 0 rfl) ?_
    refine va_get (D := (dC, dI)) (ci := 4) (v := .int tn) (C := RX6) (T := TX6) (N := 9) hx hb hts inX6 hown hK hP 0 rfl rfl 3 (by decide) (hts _ (List.mem_of_getElem? (i := 1) rfl)) (fun _ h9 => h9) rfl dX6_setTorn_6 ?_
    refine lv_iconst (v := 1) hx hb dX6_setTorn_9 (by decide) ?_
    refine lv_iload_n hx hb dX6_setTorn_10 rfl (lv_at hl 1 rfl) ?_
    refine lv_ishl hx hb dX6_setTorn_11 ?_
    refine lv_topi (fun n_5 en_5 => ?_)
    clear en_5
    refine lv_ior hx hb dX6_setTorn_12 ?_
    refine lv_topi (fun n_6 en_6 => ?_)
    clear en_6
    refine lv_goto (tgt := 26) hx hb dX6_setTorn_13 (by decide) ?_
    refine va_put (D := (dC, dI)) (ci := 4) (v := .int n_6) (ty := .int) (C := RX6) (T := TX6) (N := 9) hx hb hts inX6 tyX6 tyX6_ok nmX6 hown hK hP hD hS 0 rfl rfl 3 (by decide) (hts _ (List.mem_of_getElem? (i := 1) rfl)) (fun _ h9 => h9) rfl (by decide +kernel) rfl rfl (Nat.le_of_ble_eq_true rfl) dX6_setTorn_26 (fun H locs hP hD hS => ?_)
    have hP : va_P (dC, dI) vwCl [(h0, .inr (4, [w0, w1, w2, .int n_6, w4, w5, w6, w7, w8]))] H := hP
    have hD : va_D A [(h0, .inr (4, [w0, w1, w2, .int n_6, w4, w5, w6, w7, w8]))] := hD
    have hP9 := hP.sub (ws' := [(h0, .inr (4, [w0, w1, w2, .int n_6, w4, w5, w6, w7, w8]))]) [0] rfl
    have hD9 := hD.sub (ws' := [(h0, .inr (4, [w0, w1, w2, .int n_6, w4, w5, w6, w7, w8]))]) [0] (by decide) rfl
    have hK9 := hK.sub (tys' := []) [] rfl
    exact W.vret hx hb hr (fun t ht hW => ⟨⟨(), rfl, trivial, n_6, by rw [ht]; exact hP9, va_K.moved hW.alike hK9, hD9⟩, hS.F ht⟩) hS.2.2 dX6_setTorn_29

def w_s_wholeShapes : List Cond := .code yX6_wholeShapes cX6_wholeShapes 1 (some .int) :: (([.fieldLink RX6 9 "LampShapes$Stage" "shapes" "I", .fieldLink RX6 22 "LampShapes$Stage" "tornShapes" "I"] : List Cond) ++ wsX60)
set_option maxHeartbeats 4000000 in
set_option maxRecDepth 100000 in
theorem s_wholeShapes (l : Launch) (dC : Nat → ClassId) (dI : Nat → Nat → Nat) (ad : Nat → Nat) (h0 : Nat) (sh : Int32) (w1 : Value) (w2 : Value) (tn : Int32) (w4 : Value) (w5 : Value) (w6 : Value) (w7 : Value) (w8 : Value) : Met l yX6_wholeShapes w_s_wholeShapes ({ frames := 0, cells := 0, slots := 0, locals := 0 } : Room) (va_Pc [.ref h0] (preS dC dI ad [] [(h0, .inr (4, [.int sh, w1, w2, .int tn, w4, w5, w6, w7, w8]))])) (vp_Si (fun r => True)) 0 0 (fun _ => False) := by
  refine Met.ofW (cc := cX6_wholeShapes) (maxL := 1) (ret := (some .int)) (by decide) rfl ?_
  intro p e s m args below meth c s₁ B hml hv
  obtain ⟨rfl, hP, hK, hev⟩ := hv
  have hx := B.exec
  have hb := B.bytes
  have hr := B.returns
  have hts := atoms_spec (ws := w_s_wholeShapes) B.pre
  have hown : s.vm.findClass RX6 = some m.cls := findClass_of_methodNamed B.named
  have hlocks := B.notSynchronized
  have inX6 : ∀ w ∈ wsX60, w ∈ w_s_wholeShapes := fun w h => List.mem_cons_of_mem _ (List.mem_append_right _ h)
  have hP : va_P (dC, dI) vwCl [(h0, .inr (4, [.int sh, w1, w2, .int tn, w4, w5, w6, w7, w8]))] s.heap := hP
  have hl := lv_entry ([.ref h0]) (n := 1) (Nat.le_of_ble_eq_true rfl)
  rw [lg_entry_eq]
  generalize (lg_sl ([.ref h0]) ++ List.replicate (1 - (lg_sl ([.ref h0])).length) Slot.unset).toArray = ls at hl ⊢
  have hl : lv_has ls 1 [(0, .ref h0)] := hl
  refine lv_iconst (v := 1) hx hb dX6_wholeShapes_0 (by decide) ?_
  refine lv_aload_n hx hb dX6_wholeShapes_1 rfl (lv_at hl 0 rfl) ?_
  refine va_get (D := (dC, dI)) (ci := 4) (v := .int sh) (C := RX6) (T := TX6) (N := 9) hx hb hts inX6 hown hK hP 0 rfl rfl 0 (by decide) (hts _ (List.mem_of_getElem? (i := 1) rfl)) (fun _ h9 => h9) rfl dX6_wholeShapes_2 ?_
  refine lv_ishl hx hb dX6_wholeShapes_5 ?_
  refine lv_topi (fun n_1 en_1 => ?_)
  clear en_1
  refine lv_iconst (v := 1) hx hb dX6_wholeShapes_6 (by decide) ?_
  refine lv_isub hx hb dX6_wholeShapes_7 ?_
  refine lv_topi (fun n_2 en_2 => ?_)
  clear en_2
  refine lv_aload_n hx hb dX6_wholeShapes_8 rfl (lv_at hl 0 rfl) ?_
  refine va_get (D := (dC, dI)) (ci := 4) (v := .int tn) (C := RX6) (T := TX6) (N := 9) hx hb hts inX6 hown hK hP 0 rfl rfl 3 (by decide) (hts _ (List.mem_of_getElem? (i := 2) rfl)) (fun _ h9 => h9) rfl dX6_wholeShapes_9 ?_
  refine lv_iconst (v := (-1)) hx hb dX6_wholeShapes_12 (by decide) ?_
  refine lv_ixor hx hb dX6_wholeShapes_13 ?_
  refine lv_topi (fun n_3 en_3 => ?_)
  clear en_3
  refine lv_iand hx hb dX6_wholeShapes_14 ?_
  refine lv_topi (fun n_4 en_4 => ?_)
  clear en_4
  exact W.iret (v := n_4) hx hb hr (fun t ht hW => ⟨n_4, rfl, trivial, ht⟩) (fun _ h => absurd h List.not_mem_nil) dX6_wholeShapes_15

def w_s_cornerBy : List Cond := .code yX6_cornerBy cX6_cornerBy 4 (some .long) :: (([.fieldLink RX6 15 "LampShapes$Stage" "kinds" "[I", .fieldLink RX6 19 "LampShapes$Stage" "points" "[I", .methodLink RX6 47 yX0_pointsBy, .static yX0_pointsBy, .initialized RX0, .code yX0_pointsBy cX0_pointsBy 3 (some .int), .methodLink RX0 15 yX0_turnedBy, .static yX0_turnedBy, .code yX0_turnedBy cX0_turnedBy 6 (some .int), .methodLink RX0 19 yX0_mirroredBy, .static yX0_mirroredBy, .code yX0_mirroredBy cX0_mirroredBy 2 (some .int), .constant RX0 31 (34952), .methodLink RX0 22 yX0_hollowed, .static yX0_hollowed, .code yX0_hollowed cX0_hollowed 5 (some .int), .constant RX0 32 (61166), .methodLink RX0 25 yX0_doubled, .static yX0_doubled, .code yX0_doubled cX0_doubled 1 (some .int), .constant RX0 33 (65535), .methodLink RX0 28 yX0_filled, .static yX0_filled, .code yX0_filled cX0_filled 6 (some .int), .methodLink RX6 53 yX1_cellsAtCorner, .static yX1_cellsAtCorner, .initialized RX1, .code yX1_cellsAtCorner cX1_cellsAtCorner 8 (some .long), .constantLong RX1 9 (771)] : List Cond) ++ wsX60)
set_option maxRecDepth 20000 in
theorem g_s_cornerBy_k_pointsBy_47 : GoodIn w_s_cornerBy (va_wsS RX6 47 yX0_pointsBy w_k_pointsBy) := goodIn_r _ [3, 4, 5, 6, 7, 8, 5, 9, 10, 11, 12, 13, 14, 15, 16, 17, 18, 19, 20, 21, 22, 23, 24] rfl (by decide +kernel)
set_option maxRecDepth 20000 in
theorem g_s_cornerBy_l_cellsAtCorner_53 : GoodIn w_s_cornerBy (va_wsS RX6 53 yX1_cellsAtCorner w_l_cellsAtCorner) := goodIn_r _ [25, 26, 27, 28, 29] rfl (by decide +kernel)
set_option maxHeartbeats 4000000 in
set_option maxRecDepth 100000 in
theorem s_cornerBy (l : Launch) (dC : Nat → ClassId) (dI : Nat → Nat → Nat) (ad : Nat → Nat) (h0 : Nat) (k : Int32) (a : Int32) (w0 : Value) (q1 : Nat) (q2 : Nat) (w3 : Value) (w4 : Value) (w5 : Value) (w6 : Value) (w7 : Value) (w8 : Value) (c1 : ClassId) (f1 : Nat → Int32) (c2 : ClassId) (f2 : Nat → Int32) (hk : 0 ≤ k.toInt ∧ k.toInt ≤ 8) : Met l yX6_cornerBy w_s_cornerBy ({ frames := 2, cells := 0, slots := 0, locals := 47 } : Room) (va_Pc [.ref h0, .int k, .int a] (preS dC dI ad [(c1, .int), (c2, .int)] [(h0, .inr (4, [w0, .ref q1, .ref q2, w3, w4, w5, w6, w7, w8])), (q1, .inl (c1, 9, .inl f1)), (q2, .inl (c2, 9, .inl f2))])) (vp_Sl (fun r => True)) 0 0 (fun _ => False) := by
  refine Met.ofW (cc := cX6_cornerBy) (maxL := 4) (ret := (some .long)) (by decide) rfl ?_
  intro p e s m args below meth c s₁ B hml hv
  obtain ⟨rfl, hP, hK, hev⟩ := hv
  have hx := B.exec
  have hb := B.bytes
  have hr := B.returns
  have hts := atoms_spec (ws := w_s_cornerBy) B.pre
  have hown : s.vm.findClass RX6 = some m.cls := findClass_of_methodNamed B.named
  have hlocks := B.notSynchronized
  have inX6 : ∀ w ∈ wsX60, w ∈ w_s_cornerBy := fun w h => List.mem_cons_of_mem _ (List.mem_append_right _ h)
  have hP : va_P (dC, dI) vwCl [(h0, .inr (4, [w0, .ref q1, .ref q2, w3, w4, w5, w6, w7, w8])), (q1, .inl (c1, 9, .inl f1)), (q2, .inl (c2, 9, .inl f2))] s.heap := hP
  have hl := lv_entry ([.ref h0, .int k, .int a]) (n := 4) (Nat.le_of_ble_eq_true rfl)
  rw [lg_entry_eq]
  generalize (lg_sl ([.ref h0, .int k, .int a]) ++ List.replicate (4 - (lg_sl ([.ref h0, .int k, .int a])).length) Slot.unset).toArray = ls at hl ⊢
  have hl : lv_has ls 4 [(0, .ref h0), (1, .int k), (2, .int a)] := hl
  refine lv_aload_n hx hb dX6_cornerBy_0 rfl (lv_at hl 0 rfl) ?_
  refine va_get (D := (dC, dI)) (ci := 4) (v := .ref q1) (C := RX6) (T := TX6) (N := 9) hx hb hts inX6 hown hK hP 0 rfl rfl 1 (by decide) (hts _ (List.mem_of_getElem? (i := 1) rfl)) (fun _ h9 => h9) rfl dX6_cornerBy_1 ?_
  refine lv_iload_n hx hb dX6_cornerBy_4 rfl (lv_at hl 1 rfl) ?_
  refine va_iald hx hb hK hP 1 0 rfl rfl (vp_in_iff.mpr ⟨by omega, by omega⟩) dX6_cornerBy_5 ?_
  refine lv_topi (fun n_1 en_1 => ?_)
  clear en_1
  refine lv_aload_n hx hb dX6_cornerBy_6 rfl (lv_at hl 0 rfl) ?_
  refine va_get (D := (dC, dI)) (ci := 4) (v := .ref q2) (C := RX6) (T := TX6) (N := 9) hx hb hts inX6 hown hK hP 0 rfl rfl 2 (by decide) (hts _ (List.mem_of_getElem? (i := 2) rfl)) (fun _ h9 => h9) rfl dX6_cornerBy_7 ?_
  refine lv_iload_n hx hb dX6_cornerBy_10 rfl (lv_at hl 1 rfl) ?_
  refine va_iald hx hb hK hP 2 1 rfl rfl (vp_in_iff.mpr ⟨by omega, by omega⟩) dX6_cornerBy_11 ?_
  refine lv_topi (fun n_2 en_2 => ?_)
  clear en_2
  refine lv_iload_n hx hb dX6_cornerBy_12 rfl (lv_at hl 2 rfl) ?_
  refine lv_iconst (v := 4) hx hb dX6_cornerBy_13 (by decide) ?_
  refine lv_irem hx hb dX6_cornerBy_14 (by decide) ?_
  refine lv_topi (fun n_3 en_3 => ?_)
  clear en_3
  have hPc := hP.sub (ws' := []) [] rfl
  have hKc := hK.sub (tys' := []) [] rfl
  refine vp_callSi (W.runS (As := [.int n_1, .int n_2, .int n_3]) (rest := []) ⟨hx, hb, hml, hown, hts⟩ (k_pointsBy l dC dI ad n_1 n_2 n_3 ) (va_cwS 3 hts g_s_cornerBy_k_pointsBy_47 rfl rfl rfl (by decide +kernel) ⟨(Nat.le_of_ble_eq_true rfl), (Nat.le_of_ble_eq_true rfl)⟩) ⟨preS_blind, fun U hU hW => ⟨rfl, preS_at hU hW hPc hKc hev⟩⟩ rfl rfl hl.1 rfl (lv_room (Nat.le_of_ble_eq_true rfl)) dX6_cornerBy_15 ⟨(Nat.le_of_ble_eq_true rfl), (Nat.le_of_ble_eq_true rfl)⟩) (fun r_4 hw => ?_)
  refine lv_istore_n (lv' := [(3, .int r_4), (0, .ref h0), (1, .int k), (2, .int a)]) hx hb dX6_cornerBy_18 rfl hl (by decide) rfl (fun ls hl => ?_)
  refine lv_iload_n hx hb dX6_cornerBy_19 rfl (lv_at hl 0 rfl) ?_
  refine lv_iload_n hx hb dX6_cornerBy_20 rfl (lv_at hl 3 rfl) ?_
  refine lv_iconst (v := 4) hx hb dX6_cornerBy_21 (by decide) ?_
  refine lv_idiv hx hb dX6_cornerBy_22 (by decide) ?_
  refine lv_topi (fun n_5 en_5 => ?_)
  clear en_5
  have hPc := hP.sub (ws' := []) [] rfl
  have hKc := hK.sub (tys' := []) [] rfl
  refine vp_callSl (W.runS (As := [.int r_4, .int n_5]) (rest := []) ⟨hx, hb, hml, hown, hts⟩ (l_cellsAtCorner l dC dI ad r_4 n_5 ) (va_cwS 2 hts g_s_cornerBy_l_cellsAtCorner_53 rfl rfl rfl (by decide +kernel) ⟨(Nat.le_of_ble_eq_true rfl), (Nat.le_of_ble_eq_true rfl)⟩) ⟨preS_blind, fun U hU hW => ⟨rfl, preS_at hU hW hPc hKc hev⟩⟩ rfl rfl hl.1 rfl (lv_room (Nat.le_of_ble_eq_true rfl)) dX6_cornerBy_23 ⟨(Nat.le_of_ble_eq_true rfl), (Nat.le_of_ble_eq_true rfl)⟩) (fun r_6 hw => ?_)
  exact W.lret (v := r_6) hx hb hr (fun t ht hW => ⟨r_6, rfl, trivial, ht⟩) (fun _ h => absurd h List.not_mem_nil) dX6_cornerBy_26

def w_s_cellsBy : List Cond := .code yX6_cellsBy cX6_cellsBy 4 (some .long) :: (([.methodLink RX6 59 yX6_cornerBy, .instanceMethod yX6_cornerBy, .selects RX6 yX6_cornerBy yX6_cornerBy, .initialized RX6, .code yX6_cornerBy cX6_cornerBy 4 (some .long), .fieldLink RX6 15 "LampShapes$Stage" "kinds" "[I", .fieldLink RX6 19 "LampShapes$Stage" "points" "[I", .methodLink RX6 47 yX0_pointsBy, .static yX0_pointsBy, .initialized RX0, .code yX0_pointsBy cX0_pointsBy 3 (some .int), .methodLink RX0 15 yX0_turnedBy, .static yX0_turnedBy, .code yX0_turnedBy cX0_turnedBy 6 (some .int), .methodLink RX0 19 yX0_mirroredBy, .static yX0_mirroredBy, .code yX0_mirroredBy cX0_mirroredBy 2 (some .int), .constant RX0 31 (34952), .methodLink RX0 22 yX0_hollowed, .static yX0_hollowed, .code yX0_hollowed cX0_hollowed 5 (some .int), .constant RX0 32 (61166), .methodLink RX0 25 yX0_doubled, .static yX0_doubled, .code yX0_doubled cX0_doubled 1 (some .int), .constant RX0 33 (65535), .methodLink RX0 28 yX0_filled, .static yX0_filled, .code yX0_filled cX0_filled 6 (some .int), .methodLink RX6 53 yX1_cellsAtCorner, .static yX1_cellsAtCorner, .initialized RX1, .code yX1_cellsAtCorner cX1_cellsAtCorner 8 (some .long), .constantLong RX1 9 (771), .methodLink RX6 62 yX1_moved, .static yX1_moved, .code yX1_moved cX1_moved 6 (some .long), .constantLong RX1 13 (72340172838076673)] : List Cond) ++ wsX60)
set_option maxRecDepth 20000 in
theorem g_s_cellsBy_s_cornerBy_59 : GoodIn w_s_cellsBy (wsV RX6 59 RX6 yX6_cornerBy w_s_cornerBy) := goodIn_r _ [1, 2, 3, 4, 5, 6, 7, 8, 9, 10, 11, 12, 13, 14, 15, 16, 17, 18, 19, 20, 21, 22, 23, 24, 25, 26, 27, 28, 29, 30, 31, 32, 33, 34, 39, 40, 41, 42, 43, 44, 45, 46, 47] rfl (by decide +kernel)
set_option maxRecDepth 20000 in
theorem g_s_cellsBy_l_moved_62 : GoodIn w_s_cellsBy (va_wsS RX6 62 yX1_moved w_l_moved) := goodIn_r _ [35, 36, 32, 37, 38] rfl (by decide +kernel)
set_option maxHeartbeats 4000000 in
set_option maxRecDepth 100000 in
theorem s_cellsBy (l : Launch) (dC : Nat → ClassId) (dI : Nat → Nat → Nat) (ad : Nat → Nat) (h0 : Nat) (k : Int32) (a : Int32) (w0 : Value) (q1 : Nat) (q2 : Nat) (w3 : Value) (w4 : Value) (w5 : Value) (w6 : Value) (w7 : Value) (w8 : Value) (c1 : ClassId) (f1 : Nat → Int32) (c2 : ClassId) (f2 : Nat → Int32) (hk : 0 ≤ k.toInt ∧ k.toInt ≤ 8) : Met l yX6_cellsBy w_s_cellsBy ({ frames := 3, cells := 0, slots := 0, locals := 70 } : Room) (va_Pc [.ref h0, .int k, .int a] (preS dC dI ad [(c1, .int), (c2, .int)] [(h0, .inr (4, [w0, .ref q1, .ref q2, w3, w4, w5, w6, w7, w8])), (q1, .inl (c1, 9, .inl f1)), (q2, .inl (c2, 9, .inl f2))])) (vp_Sl (fun r => True)) 0 0 (fun _ => False) := by
  refine Met.ofW (cc := cX6_cellsBy) (maxL := 4) (ret := (some .long)) (by decide) rfl ?_
  intro p e s m args below meth c s₁ B hml hv
  obtain ⟨rfl, hP, hK, hev⟩ := hv
  have hx := B.exec
  have hb := B.bytes
  have hr := B.returns
  have hts := atoms_spec (ws := w_s_cellsBy) B.pre
  have hown : s.vm.findClass RX6 = some m.cls := findClass_of_methodNamed B.named
  have hlocks := B.notSynchronized
  have inX6 : ∀ w ∈ wsX60, w ∈ w_s_cellsBy := fun w h => List.mem_cons_of_mem _ (List.mem_append_right _ h)
  have hP : va_P (dC, dI) vwCl [(h0, .inr (4, [w0, .ref q1, .ref q2, w3, w4, w5, w6, w7, w8])), (q1, .inl (c1, 9, .inl f1)), (q2, .inl (c2, 9, .inl f2))] s.heap := hP
  have hl := lv_entry ([.ref h0, .int k, .int a]) (n := 4) (Nat.le_of_ble_eq_true rfl)
  rw [lg_entry_eq]
  generalize (lg_sl ([.ref h0, .int k, .int a]) ++ List.replicate (4 - (lg_sl ([.ref h0, .int k, .int a])).length) Slot.unset).toArray = ls at hl ⊢
  have hl : lv_has ls 4 [(0, .ref h0), (1, .int k), (2, .int a)] := hl
  refine lv_iload_n hx hb dX6_cellsBy_0 rfl (lv_at hl 2 rfl) ?_
  refine lv_sipush (v := 1000) hx hb dX6_cellsBy_1 (by decide) ?_
  refine lv_irem hx hb dX6_cellsBy_4 (by decide) ?_
  refine lv_topi (fun n_1 en_1 => ?_)
  clear en_1
  refine lv_istore_n (lv' := [(3, .int n_1), (0, .ref h0), (1, .int k), (2, .int a)]) hx hb dX6_cellsBy_5 rfl hl (by decide) rfl (fun ls hl => ?_)
  refine lv_aload_n hx hb dX6_cellsBy_6 rfl (lv_at hl 1 rfl) ?_
  refine lv_iload_n hx hb dX6_cellsBy_7 rfl (lv_at hl 2 rfl) ?_
  refine lv_iload_n hx hb dX6_cellsBy_8 rfl (lv_at hl 3 rfl) ?_
  refine lv_sipush (v := 1000) hx hb dX6_cellsBy_9 (by decide) ?_
  refine lv_idiv hx hb dX6_cellsBy_12 (by decide) ?_
  refine lv_topi (fun n_2 en_2 => ?_)
  clear en_2
  have hPc := hP.sub (ws' := [(h0, .inr (4, [w0, .ref q1, .ref q2, w3, w4, w5, w6, w7, w8])), (q1, .inl (c1, 9, .inl f1)), (q2, .inl (c2, 9, .inl f2))]) [0, 1, 2] rfl
  have hKc := hK.sub (tys' := [(c1, .int), (c2, .int)]) [0, 1] rfl
  refine vp_callSl (W.runV (As := [.int k, .int n_2]) (rest := []) ⟨hx, hb, hml, hown, hts⟩ (s_cornerBy l dC dI ad h0 k n_2 w0 q1 q2 w3 w4 w5 w6 w7 w8 c1 f1 c2 f2 hk) (cwV 2 hts g_s_cellsBy_s_cornerBy_59 rfl rfl rfl (by decide +kernel) ⟨(Nat.le_of_ble_eq_true rfl), (Nat.le_of_ble_eq_true rfl)⟩) ⟨preS_blind, va_recv hKc hPc (ci := 4) (q0 := 0) rfl rfl, fun U hU hW => ⟨rfl, preS_at hU hW hPc hKc hev⟩⟩ rfl rfl hl.1 rfl (lv_room (Nat.le_of_ble_eq_true rfl)) dX6_cellsBy_13 ⟨(Nat.le_of_ble_eq_true rfl), (Nat.le_of_ble_eq_true rfl)⟩) (fun r_3 hw => ?_)
  refine lv_iload_n hx hb dX6_cellsBy_16 rfl (lv_at hl 0 rfl) ?_
  refine lv_bipush (v := 10) hx hb dX6_cellsBy_17 (by decide) ?_
  refine lv_idiv hx hb dX6_cellsBy_19 (by decide) ?_
  refine lv_topi (fun n_4 en_4 => ?_)
  clear en_4
  refine lv_iload_n hx hb dX6_cellsBy_20 rfl (lv_at hl 0 rfl) ?_
  refine lv_bipush (v := 10) hx hb dX6_cellsBy_21 (by decide) ?_
  refine lv_irem hx hb dX6_cellsBy_23 (by decide) ?_
  refine lv_topi (fun n_5 en_5 => ?_)
  clear en_5
  have hPc := hP.sub (ws' := []) [] rfl
  have hKc := hK.sub (tys' := []) [] rfl
  refine vp_callSl (W.runS (As := [.long r_3, .int n_4, .int n_5]) (rest := []) ⟨hx, hb, hml, hown, hts⟩ (l_moved l dC dI ad r_3 n_4 n_5 ) (va_cwS 3 hts g_s_cellsBy_l_moved_62 rfl rfl rfl (by decide +kernel) ⟨(Nat.le_of_ble_eq_true rfl), (Nat.le_of_ble_eq_true rfl)⟩) ⟨preS_blind, fun U hU hW => ⟨rfl, preS_at hU hW hPc hKc hev⟩⟩ rfl rfl hl.1 rfl (lv_room (Nat.le_of_ble_eq_true rfl)) dX6_cellsBy_24 ⟨(Nat.le_of_ble_eq_true rfl), (Nat.le_of_ble_eq_true rfl)⟩) (fun r_6 hw => ?_)
  exact W.lret (v := r_6) hx hb hr (fun t ht hW => ⟨r_6, rfl, trivial, ht⟩) (fun _ h => absurd h List.not_mem_nil) dX6_cellsBy_27

def w_s_isAllowed : List Cond := .code yX6_isAllowed cX6_isAllowed 4 (some .boolean) :: (([.fieldLink RX6 38 "LampShapes$Stage" "allowed" "I"] : List Cond) ++ wsX60)
set_option maxHeartbeats 4000000 in
set_option maxRecDepth 100000 in
theorem s_isAllowed (l : Launch) (dC : Nat → ClassId) (dI : Nat → Nat → Nat) (ad : Nat → Nat) (h0 : Nat) (k : Int32) (w0 : Value) (w1 : Value) (w2 : Value) (w3 : Value) (w4 : Value) (w5 : Value) (w6 : Value) (w7 : Value) (al : Int32) : Met l yX6_isAllowed w_s_isAllowed ({ frames := 0, cells := 0, slots := 0, locals := 0 } : Room) (va_Pc [.ref h0, .int k] (preS dC dI ad [] [(h0, .inr (4, [w0, w1, w2, w3, w4, w5, w6, w7, .int al]))])) (vp_Si (fun r => True)) 0 0 (fun _ => False) := by
  refine Met.ofW (cc := cX6_isAllowed) (maxL := 4) (ret := (some .boolean)) (by decide) rfl ?_
  intro p e s m args below meth c s₁ B hml hv
  obtain ⟨rfl, hP, hK, hev⟩ := hv
  have hx := B.exec
  have hb := B.bytes
  have hr := B.returns
  have hts := atoms_spec (ws := w_s_isAllowed) B.pre
  have hown : s.vm.findClass RX6 = some m.cls := findClass_of_methodNamed B.named
  have hlocks := B.notSynchronized
  have inX6 : ∀ w ∈ wsX60, w ∈ w_s_isAllowed := fun w h => List.mem_cons_of_mem _ (List.mem_append_right _ h)
  have hP : va_P (dC, dI) vwCl [(h0, .inr (4, [w0, w1, w2, w3, w4, w5, w6, w7, .int al]))] s.heap := hP
  have hl := lv_entry ([.ref h0, .int k]) (n := 4) (Nat.le_of_ble_eq_true rfl)
  rw [lg_entry_eq]
  generalize (lg_sl ([.ref h0, .int k]) ++ List.replicate (4 - (lg_sl ([.ref h0, .int k])).length) Slot.unset).toArray = ls at hl ⊢
  have hl : lv_has ls 4 [(0, .ref h0), (1, .int k)] := hl
  refine lv_iload_n hx hb dX6_isAllowed_0 rfl (lv_at hl 1 rfl) ?_
  refine lv_iconst (v := 4) hx hb dX6_isAllowed_1 (by decide) ?_
  refine lv_irem hx hb dX6_isAllowed_2 (by decide) ?_
  refine lv_topi (fun n_1 en_1 => ?_)
  clear en_1
  refine lv_istore_n (lv' := [(2, .int n_1), (0, .ref h0), (1, .int k)]) hx hb dX6_isAllowed_3 rfl hl (by decide) rfl (fun ls hl => ?_)
  refine lv_iload_n hx hb dX6_isAllowed_4 rfl (lv_at hl 2 rfl) ?_
  refine lv_iconst (v := 4) hx hb dX6_isAllowed_5 (by decide) ?_
  refine lv_idiv hx hb dX6_isAllowed_6 (by decide) ?_
  refine lv_topi (fun n_2 en_2 => ?_)
  clear en_2
  refine lv_istore_n (lv' := [(3, .int n_2), (2, .int n_1), (0, .ref h0), (1, .int k)]) hx hb dX6_isAllowed_7 rfl hl (by decide) rfl (fun ls hl => ?_)
  refine lv_aload_n hx hb dX6_isAllowed_8 rfl (lv_at hl 2 rfl) ?_
  refine va_get (D := (dC, dI)) (ci := 4) (v := .int al) (C := RX6) (T := TX6) (N := 9) hx hb hts inX6 hown hK hP 0 rfl rfl 8 (by decide) (hts _ (List.mem_of_getElem? (i := 1) rfl)) (fun _ h9 => h9) rfl dX6_isAllowed_9 ?_
  refine lv_iload_n hx hb dX6_isAllowed_12 rfl (lv_at hl 1 rfl) ?_
  refine lv_ishr hx hb dX6_isAllowed_13 ?_
  refine lv_topi (fun n_3 en_3 => ?_)
  clear en_3
  refine lv_iconst (v := 1) hx hb dX6_isAllowed_14 (by decide) ?_
  refine lv_iand hx hb dX6_isAllowed_15 ?_
  refine lv_topi (fun n_4 en_4 => ?_)
  clear en_4
  refine lv_iconst (v := 1) hx hb dX6_isAllowed_16 (by decide) ?_
  refine lv_icmp_ne (tgt := 38) hx hb dX6_isAllowed_17 (by decide) (fun c_5 => ?_) (fun c_5 => ?_)
  · skip
    have tc_5 : ¬ n_4.toInt = 1 := fun h => c_5 ((fa_eq _ _).mpr h)
    refine lv_iconst (v := 0) hx hb dX6_isAllowed_38 (by decide) ?_
    exact W.zret (v := (0 : Int32)) hx hb hr (by decide) (fun t ht hW => ⟨(0 : Int32), rfl, trivial, ht⟩) (fun _ h => absurd h List.not_mem_nil) dX6_isAllowed_39
  · skip
    have tc_5 : n_4.toInt = 1 := (fa_eq _ _).mp c_5
    refine lv_aload_n hx hb dX6_isAllowed_20 rfl (lv_at hl 2 rfl) ?_
    refine va_get (D := (dC, dI)) (ci := 4) (v := .int al) (C := RX6) (T := TX6) (N := 9) hx hb hts inX6 hown hK hP 0 rfl rfl 8 (by decide) (hts _ (List.mem_of_getElem? (i := 1) rfl)) (fun _ h9 => h9) rfl dX6_isAllowed_21 ?_
    refine lv_iconst (v := 3) hx hb dX6_isAllowed_24 (by decide) ?_
    refine lv_iload_n hx hb dX6_isAllowed_25 rfl (lv_at hl 0 rfl) ?_
    refine lv_iadd hx hb dX6_isAllowed_26 ?_
    refine lv_topi (fun n_6 en_6 => ?_)
    clear en_6
    refine lv_ishr hx hb dX6_isAllowed_27 ?_
    refine lv_topi (fun n_7 en_7 => ?_)
    clear en_7
    refine lv_iconst (v := 1) hx hb dX6_isAllowed_28 (by decide) ?_
    refine lv_iand hx hb dX6_isAllowed_29 ?_
    refine lv_topi (fun n_8 en_8 => ?_)
    clear en_8
    refine lv_iconst (v := 1) hx hb dX6_isAllowed_30 (by decide) ?_
    refine lv_icmp_ne (tgt := 38) hx hb dX6_isAllowed_31 (by decide) (fun c_9 => ?_) (fun c_9 => ?_)
    · skip
      have tc_9 : ¬ n_8.toInt = 1 := fun h => c_9 ((fa_eq _ _).mpr h)
      refine lv_iconst (v := 0) hx hb dX6_isAllowed_38 (by decide) ?_
      exact W.zret (v := (0 : Int32)) hx hb hr (by decide) (fun t ht hW => ⟨(0 : Int32), rfl, trivial, ht⟩) (fun _ h => absurd h List.not_mem_nil) dX6_isAllowed_39
    · skip
      have tc_9 : n_8.toInt = 1 := (fa_eq _ _).mp c_9
      refine lv_iconst (v := 1) hx hb dX6_isAllowed_34 (by decide) ?_
      refine lv_goto (tgt := 39) hx hb dX6_isAllowed_35 (by decide) ?_
      exact W.zret (v := (1 : Int32)) hx hb hr (by decide) (fun t ht hW => ⟨(1 : Int32), rfl, trivial, ht⟩) (fun _ h => absurd h List.not_mem_nil) dX6_isAllowed_39

def w_s_holdOf : List Cond := .code yX6_holdOf cX6_holdOf 3 (some .int) :: (([.fieldLink RX6 25 "LampShapes$Stage" "heldShapes" "[I"] : List Cond) ++ wsX60)
set_option maxHeartbeats 4000000 in
set_option maxRecDepth 100000 in
theorem s_holdOf (l : Launch) (dC : Nat → ClassId) (dI : Nat → Nat → Nat) (ad : Nat → Nat) (h0 : Nat) (k : Int32) (w0 : Value) (w1 : Value) (w2 : Value) (w3 : Value) (q3 : Nat) (w5 : Value) (w6 : Value) (w7 : Value) (w8 : Value) (c3 : ClassId) (f3 : Nat → Int32) : Met l yX6_holdOf w_s_holdOf ({ frames := 0, cells := 0, slots := 0, locals := 0 } : Room) (va_Pc [.ref h0, .int k] (preS dC dI ad [(c3, .int)] [(h0, .inr (4, [w0, w1, w2, w3, .ref q3, w5, w6, w7, w8])), (q3, .inl (c3, 4, .inl f3))])) (vp_Si (fun r => (-1) ≤ r.toInt ∧ r.toInt ≤ 3)) 0 0 (fun _ => False) := by
  refine Met.ofW (cc := cX6_holdOf) (maxL := 3) (ret := (some .int)) (by decide) rfl ?_
  intro p e s m args below meth c s₁ B hml hv
  obtain ⟨rfl, hP, hK, hev⟩ := hv
  have hx := B.exec
  have hb := B.bytes
  have hr := B.returns
  have hts := atoms_spec (ws := w_s_holdOf) B.pre
  have hown : s.vm.findClass RX6 = some m.cls := findClass_of_methodNamed B.named
  have hlocks := B.notSynchronized
  have inX6 : ∀ w ∈ wsX60, w ∈ w_s_holdOf := fun w h => List.mem_cons_of_mem _ (List.mem_append_right _ h)
  have hP : va_P (dC, dI) vwCl [(h0, .inr (4, [w0, w1, w2, w3, .ref q3, w5, w6, w7, w8])), (q3, .inl (c3, 4, .inl f3))] s.heap := hP
  have hl := lv_entry ([.ref h0, .int k]) (n := 3) (Nat.le_of_ble_eq_true rfl)
  rw [lg_entry_eq]
  generalize (lg_sl ([.ref h0, .int k]) ++ List.replicate (3 - (lg_sl ([.ref h0, .int k])).length) Slot.unset).toArray = ls at hl ⊢
  have hl : lv_has ls 3 [(0, .ref h0), (1, .int k)] := hl
  refine lv_iconst (v := 0) hx hb dX6_holdOf_0 (by decide) ?_
  refine lv_istore_n (lv' := [(2, .int 0), (0, .ref h0), (1, .int k)]) hx hb dX6_holdOf_1 rfl hl (by decide) rfl (fun ls hl => ?_)
  refine pp_loop (ι := Int32) (fun v2_2 => (4 - v2_2.toInt).toNat) (fun v2_2 H locs ls => (0 ≤ v2_2.toInt) ∧ (v2_2.toInt ≤ 4) ∧ H = s.heap ∧ locs = [] ∧ lv_has ls 3 [(2, .int v2_2), (0, .ref h0), (1, .int k)]) ?_ 0 _ _ _ ⟨(by first | omega | decide | (simp only [fa_lt, fa_le, fa_eq, and_true, true_and, and_false, false_and, not_true_eq_false, not_false_eq_true, li_0, li_1, li_2, li_3, li_4, li_5, li_6, li_7, li_8, li_9, li_10, li_12, li_15, li_16, li_20, li_30, li_34, li_38, li_40, li_63, li_64, li_65, li_78, li_120, li_1000, li_4000, li_10000, li_11077, li_255, li_65535, li_m1, li_m2, li_m1000000001, li_m1000000002, li_m1000000003, li_m1000000004, li_m1000000005, li_m1000000006, li_m1000000007, or_true, true_or, or_false, false_or, implies_true, true_implies, false_implies] <;> omega)), (by first | omega | decide | (simp only [fa_lt, fa_le, fa_eq, and_true, true_and, and_false, false_and, not_true_eq_false, not_false_eq_true, li_0, li_1, li_2, li_3, li_4, li_5, li_6, li_7, li_8, li_9, li_10, li_12, li_15, li_16, li_20, li_30, li_34, li_38, li_40, li_63, li_64, li_65, li_78, li_120, li_1000, li_4000, li_10000, li_11077, li_255, li_65535, li_m1, li_m2, li_m1000000001, li_m1000000002, li_m1000000003, li_m1000000004, li_m1000000005, li_m1000000006, li_m1000000007, or_true, true_or, or_false, false_or, implies_true, true_implies, false_implies] <;> omega)), rfl, rfl, lv_sub hl [0, 1, 2] rfl⟩
  intro k_1 ihk_1 u H locs ls hm hI
  obtain ⟨v2_2, rfl⟩ : ∃ z, z = u := ⟨_, rfl⟩
  obtain ⟨jk_1_0, jk_1_1, rfl, rfl, hl⟩ := hI
  have hmk_1 : (4 - v2_2.toInt).toNat < k_1 + 1 := hm
  clear hm
  have jk_1_0 : 0 ≤ v2_2.toInt := jk_1_0
  have jk_1_1 : v2_2.toInt ≤ 4 := jk_1_1
  have hl : lv_has ls 3 [(2, .int v2_2), (0, .ref h0), (1, .int k)] := hl
  refine lv_iload_n hx hb dX6_holdOf_2 rfl (lv_at hl 0 rfl) ?_
  refine lv_iconst (v := 4) hx hb dX6_holdOf_3 (by decide) ?_
  refine lv_icmp_ge (tgt := 25) hx hb dX6_holdOf_4 (by decide) (fun c_2 => ?_) (fun c_2 => ?_)
  · skip
    have tc_2 : 4 ≤ v2_2.toInt := (fa_le _ _).mp c_2
    refine lv_iconst (v := (-1)) hx hb dX6_holdOf_25 (by decide) ?_
    exact W.iret (v := ((-1) : Int32)) hx hb hr (fun t ht hW => ⟨((-1) : Int32), rfl, (by first | omega | decide | (simp only [fa_lt, fa_le, fa_eq, and_true, true_and, and_false, false_and, not_true_eq_false, not_false_eq_true, li_0, li_1, li_2, li_3, li_4, li_5, li_6, li_7, li_8, li_9, li_10, li_12, li_15, li_16, li_20, li_30, li_34, li_38, li_40, li_63, li_64, li_65, li_78, li_120, li_1000, li_4000, li_10000, li_11077, li_255, li_65535, li_m1, li_m2, li_m1000000001, li_m1000000002, li_m1000000003, li_m1000000004, li_m1000000005, li_m1000000006, li_m1000000007, or_true, true_or, or_false, false_or, implies_true, true_implies, false_implies] <;> omega)), ht⟩) (fun _ h => absurd h List.not_mem_nil) dX6_holdOf_26
  · skip
    have tc_2 : ¬ 4 ≤ v2_2.toInt := fun h => c_2 ((fa_le _ _).mpr h)
    refine lv_aload_n hx hb dX6_holdOf_7 rfl (lv_at hl 1 rfl) ?_
    refine va_get (D := (dC, dI)) (ci := 4) (v := .ref q3) (C := RX6) (T := TX6) (N := 9) hx hb hts inX6 hown hK hP 0 rfl rfl 4 (by decide) (hts _ (List.mem_of_getElem? (i := 1) rfl)) (fun _ h9 => h9) rfl dX6_holdOf_8 ?_
    refine lv_iload_n hx hb dX6_holdOf_11 rfl (lv_at hl 0 rfl) ?_
    refine va_iald hx hb hK hP 1 0 rfl rfl (vp_in_iff.mpr ⟨by omega, by omega⟩) dX6_holdOf_12 ?_
    refine lv_topi (fun n_3 en_3 => ?_)
    clear en_3
    refine lv_iload_n hx hb dX6_holdOf_13 rfl (lv_at hl 2 rfl) ?_
    have rc_4_x := pp_rng n_3
    have rc_4_y := pp_rng k
    refine lv_icmp_ne (tgt := 19) hx hb dX6_holdOf_14 (by decide) (fun c_4 => ?_) (fun c_4 => ?_)
    · skip
      have tc_4 : ¬ n_3.toInt = k.toInt := fun h => c_4 ((fa_eq _ _).mpr h)
      obtain ⟨n_5, en_5⟩ : ∃ y : Int32, y = v2_2 + 1 := ⟨_, rfl⟩
      have tn_5 : n_5.toInt = v2_2.toInt + 1 := pp_add en_5 rfl rfl (by omega) (by omega)
      refine lv_iinc (v := n_5) (lv' := [(2, .int n_5), (0, .ref h0), (1, .int k)]) hx hb dX6_holdOf_19 hl (k := 0) rfl (by rw [en_5]; rfl) (by decide) rfl (fun ls hl => ?_)
      clear en_5
      refine lv_goto (tgt := 2) hx hb dX6_holdOf_22 (by decide) ?_
      exact ihk_1 n_5 _ _ _ (by show (4 - n_5.toInt).toNat < k_1; omega) ⟨(by first | omega | decide | (simp only [fa_lt, fa_le, fa_eq, and_true, true_and, and_false, false_and, not_true_eq_false, not_false_eq_true, li_0, li_1, li_2, li_3, li_4, li_5, li_6, li_7, li_8, li_9, li_10, li_12, li_15, li_16, li_20, li_30, li_34, li_38, li_40, li_63, li_64, li_65, li_78, li_120, li_1000, li_4000, li_10000, li_11077, li_255, li_65535, li_m1, li_m2, li_m1000000001, li_m1000000002, li_m1000000003, li_m1000000004, li_m1000000005, li_m1000000006, li_m1000000007, or_true, true_or, or_false, false_or, implies_true, true_implies, false_implies] <;> omega)), (by first | omega | decide | (simp only [fa_lt, fa_le, fa_eq, and_true, true_and, and_false, false_and, not_true_eq_false, not_false_eq_true, li_0, li_1, li_2, li_3, li_4, li_5, li_6, li_7, li_8, li_9, li_10, li_12, li_15, li_16, li_20, li_30, li_34, li_38, li_40, li_63, li_64, li_65, li_78, li_120, li_1000, li_4000, li_10000, li_11077, li_255, li_65535, li_m1, li_m2, li_m1000000001, li_m1000000002, li_m1000000003, li_m1000000004, li_m1000000005, li_m1000000006, li_m1000000007, or_true, true_or, or_false, false_or, implies_true, true_implies, false_implies] <;> omega)), rfl, rfl, lv_sub hl [0, 1, 2] rfl⟩
    · skip
      have tc_4 : n_3.toInt = k.toInt := (fa_eq _ _).mp c_4
      refine lv_iload_n hx hb dX6_holdOf_17 rfl (lv_at hl 0 rfl) ?_
      exact W.iret (v := v2_2) hx hb hr (fun t ht hW => ⟨v2_2, rfl, (by first | omega | decide | (simp only [fa_lt, fa_le, fa_eq, and_true, true_and, and_false, false_and, not_true_eq_false, not_false_eq_true, li_0, li_1, li_2, li_3, li_4, li_5, li_6, li_7, li_8, li_9, li_10, li_12, li_15, li_16, li_20, li_30, li_34, li_38, li_40, li_63, li_64, li_65, li_78, li_120, li_1000, li_4000, li_10000, li_11077, li_255, li_65535, li_m1, li_m2, li_m1000000001, li_m1000000002, li_m1000000003, li_m1000000004, li_m1000000005, li_m1000000006, li_m1000000007, or_true, true_or, or_false, false_or, implies_true, true_implies, false_implies] <;> omega)), ht⟩) (fun _ h => absurd h List.not_mem_nil) dX6_holdOf_18

def w_s_freeHold : List Cond := .code yX6_freeHold cX6_freeHold 1 (some .int) :: (([.methodLink RX6 66 yX6_holdOf, .instanceMethod yX6_holdOf, .selects RX6 yX6_holdOf yX6_holdOf, .initialized RX6, .code yX6_holdOf cX6_holdOf 3 (some .int), .fieldLink RX6 25 "LampShapes$Stage" "heldShapes" "[I"] : List Cond) ++ wsX60)
set_option maxRecDepth 20000 in
theorem g_s_freeHold_s_holdOf_66 : GoodIn w_s_freeHold (wsV RX6 66 RX6 yX6_holdOf w_s_holdOf) := goodIn_r _ [1, 2, 3, 4, 5, 6, 7, 8, 9, 10, 11, 12, 13, 14, 15] rfl (by decide +kernel)
set_option maxHeartbeats 4000000 in
set_option maxRecDepth 100000 in
theorem s_freeHold (l : Launch) (dC : Nat → ClassId) (dI : Nat → Nat → Nat) (ad : Nat → Nat) (h0 : Nat) (w0 : Value) (w1 : Value) (w2 : Value) (w3 : Value) (q3 : Nat) (w5 : Value) (w6 : Value) (w7 : Value) (w8 : Value) (c3 : ClassId) (f3 : Nat → Int32) : Met l yX6_freeHold w_s_freeHold ({ frames := 1, cells := 0, slots := 0, locals := 22 } : Room) (va_Pc [.ref h0] (preS dC dI ad [(c3, .int)] [(h0, .inr (4, [w0, w1, w2, w3, .ref q3, w5, w6, w7, w8])), (q3, .inl (c3, 4, .inl f3))])) (vp_Si (fun r => (-1) ≤ r.toInt ∧ r.toInt ≤ 3)) 0 0 (fun _ => False) := by
  refine Met.ofW (cc := cX6_freeHold) (maxL := 1) (ret := (some .int)) (by decide) rfl ?_
  intro p e s m args below meth c s₁ B hml hv
  obtain ⟨rfl, hP, hK, hev⟩ := hv
  have hx := B.exec
  have hb := B.bytes
  have hr := B.returns
  have hts := atoms_spec (ws := w_s_freeHold) B.pre
  have hown : s.vm.findClass RX6 = some m.cls := findClass_of_methodNamed B.named
  have hlocks := B.notSynchronized
  have inX6 : ∀ w ∈ wsX60, w ∈ w_s_freeHold := fun w h => List.mem_cons_of_mem _ (List.mem_append_right _ h)
  have hP : va_P (dC, dI) vwCl [(h0, .inr (4, [w0, w1, w2, w3, .ref q3, w5, w6, w7, w8])), (q3, .inl (c3, 4, .inl f3))] s.heap := hP
  have hl := lv_entry ([.ref h0]) (n := 1) (Nat.le_of_ble_eq_true rfl)
  rw [lg_entry_eq]
  generalize (lg_sl ([.ref h0]) ++ List.replicate (1 - (lg_sl ([.ref h0])).length) Slot.unset).toArray = ls at hl ⊢
  have hl : lv_has ls 1 [(0, .ref h0)] := hl
  refine lv_aload_n hx hb dX6_freeHold_0 rfl (lv_at hl 0 rfl) ?_
  refine lv_iconst (v := (-1)) hx hb dX6_freeHold_1 (by decide) ?_
  have hPc := hP.sub (ws' := [(h0, .inr (4, [w0, w1, w2, w3, .ref q3, w5, w6, w7, w8])), (q3, .inl (c3, 4, .inl f3))]) [0, 1] rfl
  have hKc := hK.sub (tys' := [(c3, .int)]) [0] rfl
  refine vp_callSi (W.runV (As := [.int (-1)]) (rest := []) ⟨hx, hb, hml, hown, hts⟩ (s_holdOf l dC dI ad h0 (-1) w0 w1 w2 w3 q3 w5 w6 w7 w8 c3 f3 ) (cwV 1 hts g_s_freeHold_s_holdOf_66 rfl rfl rfl (by decide +kernel) ⟨(Nat.le_of_ble_eq_true rfl), (Nat.le_of_ble_eq_true rfl)⟩) ⟨preS_blind, va_recv hKc hPc (ci := 4) (q0 := 0) rfl rfl, fun U hU hW => ⟨rfl, preS_at hU hW hPc hKc hev⟩⟩ rfl rfl hl.1 rfl (lv_room (Nat.le_of_ble_eq_true rfl)) dX6_freeHold_2 ⟨(Nat.le_of_ble_eq_true rfl), (Nat.le_of_ble_eq_true rfl)⟩) (fun r_1 hw => ?_)
  have hr_1 : (-1) ≤ r_1.toInt ∧ r_1.toInt ≤ 3 := hw
  exact W.iret (v := r_1) hx hb hr (fun t ht hW => ⟨r_1, rfl, (by first | omega | decide | (simp only [fa_lt, fa_le, fa_eq, and_true, true_and, and_false, false_and, not_true_eq_false, not_false_eq_true, li_0, li_1, li_2, li_3, li_4, li_5, li_6, li_7, li_8, li_9, li_10, li_12, li_15, li_16, li_20, li_30, li_34, li_38, li_40, li_63, li_64, li_65, li_78, li_120, li_1000, li_4000, li_10000, li_11077, li_255, li_65535, li_m1, li_m2, li_m1000000001, li_m1000000002, li_m1000000003, li_m1000000004, li_m1000000005, li_m1000000006, li_m1000000007, or_true, true_or, or_false, false_or, implies_true, true_implies, false_implies] <;> omega)), ht⟩) (fun _ h => absurd h List.not_mem_nil) dX6_freeHold_5

def w_s_take : List Cond := .code yX6_take cX6_take 4 none :: (([.fieldLink RX6 25 "LampShapes$Stage" "heldShapes" "[I", .fieldLink RX6 28 "LampShapes$Stage" "heldPlacings" "[I"] : List Cond) ++ wsX60)
set_option maxHeartbeats 4000000 in
set_option maxRecDepth 100000 in
theorem s_take (l : Launch) (dC : Nat → ClassId) (dI : Nat → Nat → Nat) (ad : Nat → Nat) (h0 : Nat) (k : Int32) (a : Int32) (b : Int32) (w0 : Value) (w1 : Value) (w2 : Value) (w3 : Value) (q3 : Nat) (q4 : Nat) (w6 : Value) (w7 : Value) (w8 : Value) (c3 : ClassId) (f3 : Nat → Int32) (c4 : ClassId) (f4 : Nat → Int32) (sz : Nat) (hk : 0 ≤ k.toInt ∧ k.toInt ≤ 3) : Met l yX6_take w_s_take ({ frames := 0, cells := 0, slots := 0, locals := 0 } : Room) (va_Pc [.ref h0, .int k, .int a, .int b] (preM dC dI ad [(c3, .int), (c4, .int)] [(h0, .inr (4, [w0, w1, w2, w3, .ref q3, .ref q4, w6, w7, w8])), (q3, .inl (c3, 4, .inl f3)), (q4, .inl (c4, 4, .inl f4))] sz)) (va_Qv (fun (_ : Unit) => True) (fun _ t => ∃ (g3 : Nat → Int32), ∃ (g4 : Nat → Int32), va_P (dC, dI) vwCl [(h0, .inr (4, [w0, w1, w2, w3, .ref q3, .ref q4, w6, w7, w8])), (q3, .inl (c3, 4, .inl g3)), (q4, .inl (c4, 4, .inl g4))] t.heap ∧ va_K (dC, dI) vwCl [(c3, .int), (c4, .int)] t ∧ va_D (va_A [(h0, .inr (4, [w0, w1, w2, w3, .ref q3, .ref q4, w6, w7, w8])), (q3, .inl (c3, 4, .inl f3)), (q4, .inl (c4, 4, .inl f4))] sz) [(h0, .inr (4, [w0, w1, w2, w3, .ref q3, .ref q4, w6, w7, w8])), (q3, .inl (c3, 4, .inl g3)), (q4, .inl (c4, 4, .inl g4))]) (va_A [(h0, .inr (4, [w0, w1, w2, w3, .ref q3, .ref q4, w6, w7, w8])), (q3, .inl (c3, 4, .inl f3)), (q4, .inl (c4, 4, .inl f4))] sz)) 0 0 (va_A [(h0, .inr (4, [w0, w1, w2, w3, .ref q3, .ref q4, w6, w7, w8])), (q3, .inl (c3, 4, .inl f3)), (q4, .inl (c4, 4, .inl f4))] sz) := by
  refine Met.ofW (cc := cX6_take) (maxL := 4) (ret := none) (by decide) rfl ?_
  intro p e s m args below meth c s₁ B hml hv
  obtain ⟨rfl, hsz, hP, hK, hD0, hev⟩ := hv
  have hx := B.exec
  have hb := B.bytes
  have hr := B.returns
  have hts := atoms_spec (ws := w_s_take) B.pre
  have hown : s.vm.findClass RX6 = some m.cls := findClass_of_methodNamed B.named
  have hlocks := B.notSynchronized
  have inX6 : ∀ w ∈ wsX60, w ∈ w_s_take := fun w h => List.mem_cons_of_mem _ (List.mem_append_right _ h)
  subst hsz
  have hD := hD0.self (sz := s.heap.size)
  generalize hAe : va_A [(h0, .inr (4, [w0, w1, w2, w3, .ref q3, .ref q4, w6, w7, w8])), (q3, .inl (c3, 4, .inl f3)), (q4, .inl (c4, 4, .inl f4))] s.heap.size = A at hD ⊢
  have hA : ∀ q : Nat, s.heap.size ≤ q → A q := fun q h => by rw [← hAe]; exact Or.inr h
  have hS : va_S A s.heap s.heap [] := va_S.rf
  have hP : va_P (dC, dI) vwCl [(h0, .inr (4, [w0, w1, w2, w3, .ref q3, .ref q4, w6, w7, w8])), (q3, .inl (c3, 4, .inl f3)), (q4, .inl (c4, 4, .inl f4))] s.heap := hP
  have hl := lv_entry ([.ref h0, .int k, .int a, .int b]) (n := 4) (Nat.le_of_ble_eq_true rfl)
  rw [lg_entry_eq]
  generalize (lg_sl ([.ref h0, .int k, .int a, .int b]) ++ List.replicate (4 - (lg_sl ([.ref h0, .int k, .int a, .int b])).length) Slot.unset).toArray = ls at hl ⊢
  have hl : lv_has ls 4 [(0, .ref h0), (1, .int k), (2, .int a), (3, .int b)] := hl
  refine lv_aload_n hx hb dX6_take_0 rfl (lv_at hl 0 rfl) ?_
  refine va_get (D := (dC, dI)) (ci := 4) (v := .ref q3) (C := RX6) (T := TX6) (N := 9) hx hb hts inX6 hown hK hP 0 rfl rfl 4 (by decide) (hts _ (List.mem_of_getElem? (i := 1) rfl)) (fun _ h9 => h9) rfl dX6_take_1 ?_
  refine lv_iload_n hx hb dX6_take_4 rfl (lv_at hl 1 rfl) ?_
  refine lv_iload_n hx hb dX6_take_5 rfl (lv_at hl 2 rfl) ?_
  refine va_iast hx hb hK hP hD hS 1 0 rfl rfl (vp_in_iff.mpr ⟨by omega, by omega⟩) dX6_take_6 (fun H locs hP hD hS => ?_)
  have hP : va_P (dC, dI) vwCl [(h0, .inr (4, [w0, w1, w2, w3, .ref q3, .ref q4, w6, w7, w8])), (q3, .inl (c3, 4, .inl (upd f3 k.toNatClampNeg a))), (q4, .inl (c4, 4, .inl f4))] H := hP
  have hD : va_D A [(h0, .inr (4, [w0, w1, w2, w3, .ref q3, .ref q4, w6, w7, w8])), (q3, .inl (c3, 4, .inl (upd f3 k.toNatClampNeg a))), (q4, .inl (c4, 4, .inl f4))] := hD
  refine lv_aload_n hx hb dX6_take_7 rfl (lv_at hl 0 rfl) ?_
  refine va_get (D := (dC, dI)) (ci := 4) (v := .ref q4) (C := RX6) (T := TX6) (N := 9) hx hb hts inX6 hown hK hP 0 rfl rfl 5 (by decide) (hts _ (List.mem_of_getElem? (i := 2) rfl)) (fun _ h9 => h9) rfl dX6_take_8 ?_
  refine lv_iload_n hx hb dX6_take_11 rfl (lv_at hl 1 rfl) ?_
  refine lv_iload_n hx hb dX6_take_12 rfl (lv_at hl 3 rfl) ?_
  refine va_iast hx hb hK hP hD hS 2 1 rfl rfl (vp_in_iff.mpr ⟨by omega, by omega⟩) dX6_take_13 (fun H locs hP hD hS => ?_)
  have hP : va_P (dC, dI) vwCl [(h0, .inr (4, [w0, w1, w2, w3, .ref q3, .ref q4, w6, w7, w8])), (q3, .inl (c3, 4, .inl (upd f3 k.toNatClampNeg a))), (q4, .inl (c4, 4, .inl (upd f4 k.toNatClampNeg b)))] H := hP
  have hD : va_D A [(h0, .inr (4, [w0, w1, w2, w3, .ref q3, .ref q4, w6, w7, w8])), (q3, .inl (c3, 4, .inl (upd f3 k.toNatClampNeg a))), (q4, .inl (c4, 4, .inl (upd f4 k.toNatClampNeg b)))] := hD
  have hP9 := hP.sub (ws' := [(h0, .inr (4, [w0, w1, w2, w3, .ref q3, .ref q4, w6, w7, w8])), (q3, .inl (c3, 4, .inl (upd f3 k.toNatClampNeg a))), (q4, .inl (c4, 4, .inl (upd f4 k.toNatClampNeg b)))]) [0, 1, 2] rfl
  have hD9 := hD.sub (ws' := [(h0, .inr (4, [w0, w1, w2, w3, .ref q3, .ref q4, w6, w7, w8])), (q3, .inl (c3, 4, .inl (upd f3 k.toNatClampNeg a))), (q4, .inl (c4, 4, .inl (upd f4 k.toNatClampNeg b)))]) [0, 1, 2] (by decide) rfl
  have hK9 := hK.sub (tys' := [(c3, .int), (c4, .int)]) [0, 1] rfl
  exact W.vret hx hb hr (fun t ht hW => ⟨⟨(), rfl, trivial, upd f3 k.toNatClampNeg a, upd f4 k.toNatClampNeg b, by rw [ht]; exact hP9, va_K.moved hW.alike hK9, hD9⟩, hS.F ht⟩) hS.2.2 dX6_take_14

def w_s_release : List Cond := .code yX6_release cX6_release 2 none :: (([.methodLink RX6 70 yX6_take, .instanceMethod yX6_take, .selects RX6 yX6_take yX6_take, .initialized RX6, .code yX6_take cX6_take 4 none, .fieldLink RX6 25 "LampShapes$Stage" "heldShapes" "[I", .fieldLink RX6 28 "LampShapes$Stage" "heldPlacings" "[I"] : List Cond) ++ wsX60)
set_option maxRecDepth 20000 in
theorem g_s_release_s_take_70 : GoodIn w_s_release (wsV RX6 70 RX6 yX6_take w_s_take) := goodIn_r _ [1, 2, 3, 4, 5, 6, 7, 8, 9, 10, 11, 12, 13, 14, 15, 16] rfl (by decide +kernel)
set_option maxHeartbeats 4000000 in
set_option maxRecDepth 100000 in
theorem s_release (l : Launch) (dC : Nat → ClassId) (dI : Nat → Nat → Nat) (ad : Nat → Nat) (h0 : Nat) (k : Int32) (w0 : Value) (w1 : Value) (w2 : Value) (w3 : Value) (q3 : Nat) (q4 : Nat) (w6 : Value) (w7 : Value) (w8 : Value) (c3 : ClassId) (f3 : Nat → Int32) (c4 : ClassId) (f4 : Nat → Int32) (sz : Nat) (hk : 0 ≤ k.toInt ∧ k.toInt ≤ 3) : Met l yX6_release w_s_release ({ frames := 1, cells := 0, slots := 0, locals := 23 } : Room) (va_Pc [.ref h0, .int k] (preM dC dI ad [(c3, .int), (c4, .int)] [(h0, .inr (4, [w0, w1, w2, w3, .ref q3, .ref q4, w6, w7, w8])), (q3, .inl (c3, 4, .inl f3)), (q4, .inl (c4, 4, .inl f4))] sz)) (va_Qv (fun (_ : Unit) => True) (fun _ t => ∃ (g3 : Nat → Int32), ∃ (g4 : Nat → Int32), va_P (dC, dI) vwCl [(h0, .inr (4, [w0, w1, w2, w3, .ref q3, .ref q4, w6, w7, w8])), (q3, .inl (c3, 4, .inl g3)), (q4, .inl (c4, 4, .inl g4))] t.heap ∧ va_K (dC, dI) vwCl [(c3, .int), (c4, .int)] t ∧ va_D (va_A [(h0, .inr (4, [w0, w1, w2, w3, .ref q3, .ref q4, w6, w7, w8])), (q3, .inl (c3, 4, .inl f3)), (q4, .inl (c4, 4, .inl f4))] sz) [(h0, .inr (4, [w0, w1, w2, w3, .ref q3, .ref q4, w6, w7, w8])), (q3, .inl (c3, 4, .inl g3)), (q4, .inl (c4, 4, .inl g4))]) (va_A [(h0, .inr (4, [w0, w1, w2, w3, .ref q3, .ref q4, w6, w7, w8])), (q3, .inl (c3, 4, .inl f3)), (q4, .inl (c4, 4, .inl f4))] sz)) 0 0 (va_A [(h0, .inr (4, [w0, w1, w2, w3, .ref q3, .ref q4, w6, w7, w8])), (q3, .inl (c3, 4, .inl f3)), (q4, .inl (c4, 4, .inl f4))] sz) := by
  refine Met.ofW (cc := cX6_release) (maxL := 2) (ret := none) (by decide) rfl ?_
  intro p e s m args below meth c s₁ B hml hv
  obtain ⟨rfl, hsz, hP, hK, hD0, hev⟩ := hv
  have hx := B.exec
  have hb := B.bytes
  have hr := B.returns
  have hts := atoms_spec (ws := w_s_release) B.pre
  have hown : s.vm.findClass RX6 = some m.cls := findClass_of_methodNamed B.named
  have hlocks := B.notSynchronized
  have inX6 : ∀ w ∈ wsX60, w ∈ w_s_release := fun w h => List.mem_cons_of_mem _ (List.mem_append_right _ h)
  subst hsz
  have hD := hD0.self (sz := s.heap.size)
  generalize hAe : va_A [(h0, .inr (4, [w0, w1, w2, w3, .ref q3, .ref q4, w6, w7, w8])), (q3, .inl (c3, 4, .inl f3)), (q4, .inl (c4, 4, .inl f4))] s.heap.size = A at hD ⊢
  have hA : ∀ q : Nat, s.heap.size ≤ q → A q := fun q h => by rw [← hAe]; exact Or.inr h
  have hS : va_S A s.heap s.heap [] := va_S.rf
  have hP : va_P (dC, dI) vwCl [(h0, .inr (4, [w0, w1, w2, w3, .ref q3, .ref q4, w6, w7, w8])), (q3, .inl (c3, 4, .inl f3)), (q4, .inl (c4, 4, .inl f4))] s.heap := hP
  have hl := lv_entry ([.ref h0, .int k]) (n := 2) (Nat.le_of_ble_eq_true rfl)
  rw [lg_entry_eq]
  generalize (lg_sl ([.ref h0, .int k]) ++ List.replicate (2 - (lg_sl ([.ref h0, .int k])).length) Slot.unset).toArray = ls at hl ⊢
  have hl : lv_has ls 2 [(0, .ref h0), (1, .int k)] := hl
  refine lv_aload_n hx hb dX6_release_0 rfl (lv_at hl 0 rfl) ?_
  refine lv_iload_n hx hb dX6_release_1 rfl (lv_at hl 1 rfl) ?_
  refine lv_iconst (v := (-1)) hx hb dX6_release_2 (by decide) ?_
  refine lv_iconst (v := (-1)) hx hb dX6_release_3 (by decide) ?_
  have hPc := hP.sub (ws' := [(h0, .inr (4, [w0, w1, w2, w3, .ref q3, .ref q4, w6, w7, w8])), (q3, .inl (c3, 4, .inl f3)), (q4, .inl (c4, 4, .inl f4))]) [0, 1, 2] rfl
  have hKc := hK.sub (tys' := [(c3, .int), (c4, .int)]) [0, 1] rfl
  have hDc := hD.sub (ws' := [(h0, .inr (4, [w0, w1, w2, w3, .ref q3, .ref q4, w6, w7, w8])), (q3, .inl (c3, 4, .inl f3)), (q4, .inl (c4, 4, .inl f4))]) [0, 1, 2] (by decide) rfl
  have hFc := va_free (wc := [(h0, .inr (4, [w0, w1, w2, w3, .ref q3, .ref q4, w6, w7, w8])), (q3, .inl (c3, 4, .inl f3)), (q4, .inl (c4, 4, .inl f4))]) hD hS hA [0, 1, 2] rfl
  refine va_callv (va_runV (As := [.int k, .int (-1), .int (-1)]) (rest := []) ⟨hx, hb, hml, hown, hts⟩ (s_take l dC dI ad h0 k (-1) (-1) w0 w1 w2 w3 q3 q4 w6 w7 w8 c3 f3 c4 f4 s.heap.size hk) (cwV 3 hts g_s_release_s_take_70 rfl rfl rfl (by decide +kernel) ⟨(Nat.le_of_ble_eq_true rfl), (Nat.le_of_ble_eq_true rfl)⟩) ⟨preM_blind, va_recv hKc hPc (ci := 4) (q0 := 0) rfl rfl, fun U hU hW => ⟨rfl, preM_at hU hW hPc hKc hDc hev⟩⟩ rfl rfl hl.1 rfl (lv_room (Nat.le_of_ble_eq_true rfl)) dX6_release_4 ⟨(Nat.le_of_ble_eq_true rfl), (Nat.le_of_ble_eq_true rfl)⟩) hS (fun q _ h => hFc q h) hFc (fun u t H1 locs ht hvm hw hB hz1 hk1 hS => ?_)
  obtain ⟨g_2, g_3, hP1, hK1, hD1⟩ := hB
  rw [ht] at hP1
  have hK1 := va_K.moved hvm.symm hK1
  obtain ⟨hP, hD⟩ := va_join (wr := []) (w1 := [(h0, .inr (4, [w0, w1, w2, w3, .ref q3, .ref q4, w6, w7, w8])), (q3, .inl (c3, 4, .inl g_2)), (q4, .inl (c4, 4, .inl g_3))]) hP hD [0, 1, 2] [] rfl rfl (by decide) (by decide) hk1 hFc hP1 hD1
  generalize H1 = H at hP hS ⊢
  have hP : va_P (dC, dI) vwCl [(h0, .inr (4, [w0, w1, w2, w3, .ref q3, .ref q4, w6, w7, w8])), (q3, .inl (c3, 4, .inl g_2)), (q4, .inl (c4, 4, .inl g_3))] H := hP
  have hD : va_D A [(h0, .inr (4, [w0, w1, w2, w3, .ref q3, .ref q4, w6, w7, w8])), (q3, .inl (c3, 4, .inl g_2)), (q4, .inl (c4, 4, .inl g_3))] := hD
  have hP9 := hP.sub (ws' := [(h0, .inr (4, [w0, w1, w2, w3, .ref q3, .ref q4, w6, w7, w8])), (q3, .inl (c3, 4, .inl g_2)), (q4, .inl (c4, 4, .inl g_3))]) [0, 1, 2] rfl
  have hD9 := hD.sub (ws' := [(h0, .inr (4, [w0, w1, w2, w3, .ref q3, .ref q4, w6, w7, w8])), (q3, .inl (c3, 4, .inl g_2)), (q4, .inl (c4, 4, .inl g_3))]) [0, 1, 2] (by decide) rfl
  have hK9 := hK.sub (tys' := [(c3, .int), (c4, .int)]) [0, 1] rfl
  exact W.vret hx hb hr (fun t ht hW => ⟨⟨(), rfl, trivial, g_2, g_3, by rw [ht]; exact hP9, va_K.moved hW.alike hK9, hD9⟩, hS.F ht⟩) hS.2.2 dX6_release_7

def w_s_emptyHands : List Cond := .code yX6_emptyHands cX6_emptyHands 2 none :: (([.methodLink RX6 74 yX6_release, .instanceMethod yX6_release, .selects RX6 yX6_release yX6_release, .initialized RX6, .code yX6_release cX6_release 2 none, .methodLink RX6 70 yX6_take, .instanceMethod yX6_take, .selects RX6 yX6_take yX6_take, .code yX6_take cX6_take 4 none, .fieldLink RX6 25 "LampShapes$Stage" "heldShapes" "[I", .fieldLink RX6 28 "LampShapes$Stage" "heldPlacings" "[I"] : List Cond) ++ wsX60)
set_option maxRecDepth 20000 in
theorem g_s_emptyHands_s_release_74 : GoodIn w_s_emptyHands (wsV RX6 74 RX6 yX6_release w_s_release) := goodIn_r _ [1, 2, 3, 4, 5, 6, 7, 8, 4, 9, 10, 11, 12, 13, 14, 15, 16, 17, 18, 19, 20] rfl (by decide +kernel)
set_option maxHeartbeats 4000000 in
set_option maxRecDepth 100000 in
theorem s_emptyHands (l : Launch) (dC : Nat → ClassId) (dI : Nat → Nat → Nat) (ad : Nat → Nat) (h0 : Nat) (w0 : Value) (w1 : Value) (w2 : Value) (w3 : Value) (q3 : Nat) (q4 : Nat) (w6 : Value) (w7 : Value) (w8 : Value) (c3 : ClassId) (f3 : Nat → Int32) (c4 : ClassId) (f4 : Nat → Int32) (sz : Nat) : Met l yX6_emptyHands w_s_emptyHands ({ frames := 2, cells := 0, slots := 0, locals := 44 } : Room) (va_Pc [.ref h0] (preM dC dI ad [(c3, .int), (c4, .int)] [(h0, .inr (4, [w0, w1, w2, w3, .ref q3, .ref q4, w6, w7, w8])), (q3, .inl (c3, 4, .inl f3)), (q4, .inl (c4, 4, .inl f4))] sz)) (va_Qv (fun (_ : Unit) => True) (fun _ t => ∃ (g3 : Nat → Int32), ∃ (g4 : Nat → Int32), va_P (dC, dI) vwCl [(h0, .inr (4, [w0, w1, w2, w3, .ref q3, .ref q4, w6, w7, w8])), (q3, .inl (c3, 4, .inl g3)), (q4, .inl (c4, 4, .inl g4))] t.heap ∧ va_K (dC, dI) vwCl [(c3, .int), (c4, .int)] t ∧ va_D (va_A [(h0, .inr (4, [w0, w1, w2, w3, .ref q3, .ref q4, w6, w7, w8])), (q3, .inl (c3, 4, .inl f3)), (q4, .inl (c4, 4, .inl f4))] sz) [(h0, .inr (4, [w0, w1, w2, w3, .ref q3, .ref q4, w6, w7, w8])), (q3, .inl (c3, 4, .inl g3)), (q4, .inl (c4, 4, .inl g4))]) (va_A [(h0, .inr (4, [w0, w1, w2, w3, .ref q3, .ref q4, w6, w7, w8])), (q3, .inl (c3, 4, .inl f3)), (q4, .inl (c4, 4, .inl f4))] sz)) 0 0 (va_A [(h0, .inr (4, [w0, w1, w2, w3, .ref q3, .ref q4, w6, w7, w8])), (q3, .inl (c3, 4, .inl f3)), (q4, .inl (c4, 4, .inl f4))] sz) := by
  refine Met.ofW (cc := cX6_emptyHands) (maxL := 2) (ret := none) (by decide) rfl ?_
  intro p e s m args below meth c s₁ B hml hv
  obtain ⟨rfl, hsz, hP, hK, hD0, hev⟩ := hv
  have hx := B.exec
  have hb := B.bytes
  have hr := B.returns
  have hts := atoms_spec (ws := w_s_emptyHands) B.pre
  have hown : s.vm.findClass RX6 = some m.cls := findClass_of_methodNamed B.named
  have hlocks := B.notSynchronized
  have inX6 : ∀ w ∈ wsX60, w ∈ w_s_emptyHands := fun w h => List.mem_cons_of_mem _ (List.mem_append_right _ h)
  subst hsz
  have hD := hD0.self (sz := s.heap.size)
  generalize hAe : va_A [(h0, .inr (4, [w0, w1, w2, w3, .ref q3, .ref q4, w6, w7, w8])), (q3, .inl (c3, 4, .inl f3)), (q4, .inl (c4, 4, .inl f4))] s.heap.size = A at hD ⊢
  have hA : ∀ q : Nat, s.heap.size ≤ q → A q := fun q h => by rw [← hAe]; exact Or.inr h
  have hS : va_S A s.heap s.heap [] := va_S.rf
  have hP : va_P (dC, dI) vwCl [(h0, .inr (4, [w0, w1, w2, w3, .ref q3, .ref q4, w6, w7, w8])), (q3, .inl (c3, 4, .inl f3)), (q4, .inl (c4, 4, .inl f4))] s.heap := hP
  have hl := lv_entry ([.ref h0]) (n := 2) (Nat.le_of_ble_eq_true rfl)
  rw [lg_entry_eq]
  generalize (lg_sl ([.ref h0]) ++ List.replicate (2 - (lg_sl ([.ref h0])).length) Slot.unset).toArray = ls at hl ⊢
  have hl : lv_has ls 2 [(0, .ref h0)] := hl
  refine lv_iconst (v := 0) hx hb dX6_emptyHands_0 (by decide) ?_
  refine lv_istore_n (lv' := [(1, .int 0), (0, .ref h0)]) hx hb dX6_emptyHands_1 rfl hl (by decide) rfl (fun ls hl => ?_)
  refine pp_loop (ι := Int32 × (Nat → Int32) × (Nat → Int32)) (fun ⟨v1_2, y3, y4⟩ => (4 - v1_2.toInt).toNat) (fun ⟨v1_2, y3, y4⟩ H locs ls => (0 ≤ v1_2.toInt) ∧ (v1_2.toInt ≤ 4) ∧ va_P (dC, dI) vwCl [(h0, .inr (4, [w0, w1, w2, w3, .ref q3, .ref q4, w6, w7, w8])), (q3, .inl (c3, 4, .inl y3)), (q4, .inl (c4, 4, .inl y4))] H ∧ va_D A [(h0, .inr (4, [w0, w1, w2, w3, .ref q3, .ref q4, w6, w7, w8])), (q3, .inl (c3, 4, .inl y3)), (q4, .inl (c4, 4, .inl y4))] ∧ va_S A s.heap H locs ∧ lv_has ls 2 [(1, .int v1_2), (0, .ref h0)]) ?_ (0, f3, f4) _ _ _ ⟨(by first | omega | decide | (simp only [fa_lt, fa_le, fa_eq, and_true, true_and, and_false, false_and, not_true_eq_false, not_false_eq_true, li_0, li_1, li_2, li_3, li_4, li_5, li_6, li_7, li_8, li_9, li_10, li_12, li_15, li_16, li_20, li_30, li_34, li_38, li_40, li_63, li_64, li_65, li_78, li_120, li_1000, li_4000, li_10000, li_11077, li_255, li_65535, li_m1, li_m2, li_m1000000001, li_m1000000002, li_m1000000003, li_m1000000004, li_m1000000005, li_m1000000006, li_m1000000007, or_true, true_or, or_false, false_or, implies_true, true_implies, false_implies] <;> omega)), (by first | omega | decide | (simp only [fa_lt, fa_le, fa_eq, and_true, true_and, and_false, false_and, not_true_eq_false, not_false_eq_true, li_0, li_1, li_2, li_3, li_4, li_5, li_6, li_7, li_8, li_9, li_10, li_12, li_15, li_16, li_20, li_30, li_34, li_38, li_40, li_63, li_64, li_65, li_78, li_120, li_1000, li_4000, li_10000, li_11077, li_255, li_65535, li_m1, li_m2, li_m1000000001, li_m1000000002, li_m1000000003, li_m1000000004, li_m1000000005, li_m1000000006, li_m1000000007, or_true, true_or, or_false, false_or, implies_true, true_implies, false_implies] <;> omega)), hP.sub [0, 1, 2] rfl, hD.sub [0, 1, 2] (by decide) rfl, hS, lv_sub hl [0, 1] rfl⟩
  intro k_1 ihk_1 u H locs ls hm hI
  obtain ⟨v1_2, y3, y4⟩ := u
  obtain ⟨jk_1_0, jk_1_1, hP, hD, hS, hl⟩ := hI
  have hmk_1 : (4 - v1_2.toInt).toNat < k_1 + 1 := hm
  clear hm
  have jk_1_0 : 0 ≤ v1_2.toInt := jk_1_0
  have jk_1_1 : v1_2.toInt ≤ 4 := jk_1_1
  have hl : lv_has ls 2 [(1, .int v1_2), (0, .ref h0)] := hl
  have hP : va_P (dC, dI) vwCl [(h0, .inr (4, [w0, w1, w2, w3, .ref q3, .ref q4, w6, w7, w8])), (q3, .inl (c3, 4, .inl y3)), (q4, .inl (c4, 4, .inl y4))] H := hP
  have hD : va_D A [(h0, .inr (4, [w0, w1, w2, w3, .ref q3, .ref q4, w6, w7, w8])), (q3, .inl (c3, 4, .inl y3)), (q4, .inl (c4, 4, .inl y4))] := hD
  refine lv_iload_n hx hb dX6_emptyHands_2 rfl (lv_at hl 0 rfl) ?_
  refine lv_iconst (v := 4) hx hb dX6_emptyHands_3 (by decide) ?_
  refine lv_icmp_ge (tgt := 18) hx hb dX6_emptyHands_4 (by decide) (fun c_2 => ?_) (fun c_2 => ?_)
  · skip
    have tc_2 : 4 ≤ v1_2.toInt := (fa_le _ _).mp c_2
    have hP9 := hP.sub (ws' := [(h0, .inr (4, [w0, w1, w2, w3, .ref q3, .ref q4, w6, w7, w8])), (q3, .inl (c3, 4, .inl y3)), (q4, .inl (c4, 4, .inl y4))]) [0, 1, 2] rfl
    have hD9 := hD.sub (ws' := [(h0, .inr (4, [w0, w1, w2, w3, .ref q3, .ref q4, w6, w7, w8])), (q3, .inl (c3, 4, .inl y3)), (q4, .inl (c4, 4, .inl y4))]) [0, 1, 2] (by decide) rfl
    have hK9 := hK.sub (tys' := [(c3, .int), (c4, .int)]) [0, 1] rfl
    exact W.vret hx hb hr (fun t ht hW => ⟨⟨(), rfl, trivial, y3, y4, by rw [ht]; exact hP9, va_K.moved hW.alike hK9, hD9⟩, hS.F ht⟩) hS.2.2 dX6_emptyHands_18
  · skip
    have tc_2 : ¬ 4 ≤ v1_2.toInt := fun h => c_2 ((fa_le _ _).mpr h)
    refine lv_aload_n hx hb dX6_emptyHands_7 rfl (lv_at hl 1 rfl) ?_
    refine lv_iload_n hx hb dX6_emptyHands_8 rfl (lv_at hl 0 rfl) ?_
    have hPc := hP.sub (ws' := [(h0, .inr (4, [w0, w1, w2, w3, .ref q3, .ref q4, w6, w7, w8])), (q3, .inl (c3, 4, .inl y3)), (q4, .inl (c4, 4, .inl y4))]) [0, 1, 2] rfl
    have hKc := hK.sub (tys' := [(c3, .int), (c4, .int)]) [0, 1] rfl
    have hDc := hD.sub (ws' := [(h0, .inr (4, [w0, w1, w2, w3, .ref q3, .ref q4, w6, w7, w8])), (q3, .inl (c3, 4, .inl y3)), (q4, .inl (c4, 4, .inl y4))]) [0, 1, 2] (by decide) rfl
    have hFc := va_free (wc := [(h0, .inr (4, [w0, w1, w2, w3, .ref q3, .ref q4, w6, w7, w8])), (q3, .inl (c3, 4, .inl y3)), (q4, .inl (c4, 4, .inl y4))]) hD hS hA [0, 1, 2] rfl
    refine va_callv (va_runV (As := [.int v1_2]) (rest := []) ⟨hx, hb, hml, hown, hts⟩ (s_release l dC dI ad h0 v1_2 w0 w1 w2 w3 q3 q4 w6 w7 w8 c3 y3 c4 y4 H.size (by first | omega | decide | (simp only [fa_lt, fa_le, fa_eq, and_true, true_and, and_false, false_and, not_true_eq_false, not_false_eq_true, li_0, li_1, li_2, li_3, li_4, li_5, li_6, li_7, li_8, li_9, li_10, li_12, li_15, li_16, li_20, li_30, li_34, li_38, li_40, li_63, li_64, li_65, li_78, li_120, li_1000, li_4000, li_10000, li_11077, li_255, li_65535, li_m1, li_m2, li_m1000000001, li_m1000000002, li_m1000000003, li_m1000000004, li_m1000000005, li_m1000000006, li_m1000000007, or_true, true_or, or_false, false_or, implies_true, true_implies, false_implies] <;> omega))) (cwV 1 hts g_s_emptyHands_s_release_74 rfl rfl rfl (by decide +kernel) ⟨(Nat.le_of_ble_eq_true rfl), (Nat.le_of_ble_eq_true rfl)⟩) ⟨preM_blind, va_recv hKc hPc (ci := 4) (q0 := 0) rfl rfl, fun U hU hW => ⟨rfl, preM_at hU hW hPc hKc hDc hev⟩⟩ rfl rfl hl.1 rfl (lv_room (Nat.le_of_ble_eq_true rfl)) dX6_emptyHands_9 ⟨(Nat.le_of_ble_eq_true rfl), (Nat.le_of_ble_eq_true rfl)⟩) hS (fun q _ h => hFc q h) hFc (fun u t H1 locs ht hvm hw hB hz1 hk1 hS => ?_)
    obtain ⟨g_4, g_5, hP1, hK1, hD1⟩ := hB
    rw [ht] at hP1
    have hK1 := va_K.moved hvm.symm hK1
    obtain ⟨hP, hD⟩ := va_join (wr := []) (w1 := [(h0, .inr (4, [w0, w1, w2, w3, .ref q3, .ref q4, w6, w7, w8])), (q3, .inl (c3, 4, .inl g_4)), (q4, .inl (c4, 4, .inl g_5))]) hP hD [0, 1, 2] [] rfl rfl (by decide) (by decide) hk1 hFc hP1 hD1
    generalize H1 = H at hP hS ⊢
    have hP : va_P (dC, dI) vwCl [(h0, .inr (4, [w0, w1, w2, w3, .ref q3, .ref q4, w6, w7, w8])), (q3, .inl (c3, 4, .inl g_4)), (q4, .inl (c4, 4, .inl g_5))] H := hP
    have hD : va_D A [(h0, .inr (4, [w0, w1, w2, w3, .ref q3, .ref q4, w6, w7, w8])), (q3, .inl (c3, 4, .inl g_4)), (q4, .inl (c4, 4, .inl g_5))] := hD
    obtain ⟨n_6, en_6⟩ : ∃ y : Int32, y = v1_2 + 1 := ⟨_, rfl⟩
    have tn_6 : n_6.toInt = v1_2.toInt + 1 := pp_add en_6 rfl rfl (by omega) (by omega)
    refine lv_iinc (v := n_6) (lv' := [(1, .int n_6), (0, .ref h0)]) hx hb dX6_emptyHands_12 hl (k := 0) rfl (by rw [en_6]; rfl) (by decide) rfl (fun ls hl => ?_)
    clear en_6
    refine lv_goto (tgt := 2) hx hb dX6_emptyHands_15 (by decide) ?_
    exact ihk_1 (n_6, g_4, g_5) _ _ _ (by show (4 - n_6.toInt).toNat < k_1; omega) ⟨(by first | omega | decide | (simp only [fa_lt, fa_le, fa_eq, and_true, true_and, and_false, false_and, not_true_eq_false, not_false_eq_true, li_0, li_1, li_2, li_3, li_4, li_5, li_6, li_7, li_8, li_9, li_10, li_12, li_15, li_16, li_20, li_30, li_34, li_38, li_40, li_63, li_64, li_65, li_78, li_120, li_1000, li_4000, li_10000, li_11077, li_255, li_65535, li_m1, li_m2, li_m1000000001, li_m1000000002, li_m1000000003, li_m1000000004, li_m1000000005, li_m1000000006, li_m1000000007, or_true, true_or, or_false, false_or, implies_true, true_implies, false_implies] <;> omega)), (by first | omega | decide | (simp only [fa_lt, fa_le, fa_eq, and_true, true_and, and_false, false_and, not_true_eq_false, not_false_eq_true, li_0, li_1, li_2, li_3, li_4, li_5, li_6, li_7, li_8, li_9, li_10, li_12, li_15, li_16, li_20, li_30, li_34, li_38, li_40, li_63, li_64, li_65, li_78, li_120, li_1000, li_4000, li_10000, li_11077, li_255, li_65535, li_m1, li_m2, li_m1000000001, li_m1000000002, li_m1000000003, li_m1000000004, li_m1000000005, li_m1000000006, li_m1000000007, or_true, true_or, or_false, false_or, implies_true, true_implies, false_implies] <;> omega)), hP.sub [0, 1, 2] rfl, hD.sub [0, 1, 2] (by decide) rfl, hS, lv_sub hl [0, 1] rfl⟩

def w_s_holdsInUse : List Cond := .code yX6_holdsInUse cX6_holdsInUse 3 (some .int) :: (([.fieldLink RX6 25 "LampShapes$Stage" "heldShapes" "[I"] : List Cond) ++ wsX60)
set_option maxHeartbeats 4000000 in
set_option maxRecDepth 100000 in
theorem s_holdsInUse (l : Launch) (dC : Nat → ClassId) (dI : Nat → Nat → Nat) (ad : Nat → Nat) (h0 : Nat) (w0 : Value) (w1 : Value) (w2 : Value) (w3 : Value) (q3 : Nat) (w5 : Value) (w6 : Value) (w7 : Value) (w8 : Value) (c3 : ClassId) (f3 : Nat → Int32) : Met l yX6_holdsInUse w_s_holdsInUse ({ frames := 0, cells := 0, slots := 0, locals := 0 } : Room) (va_Pc [.ref h0] (preS dC dI ad [(c3, .int)] [(h0, .inr (4, [w0, w1, w2, w3, .ref q3, w5, w6, w7, w8])), (q3, .inl (c3, 4, .inl f3))])) (vp_Si (fun r => True)) 0 0 (fun _ => False) := by
  refine Met.ofW (cc := cX6_holdsInUse) (maxL := 3) (ret := (some .int)) (by decide) rfl ?_
  intro p e s m args below meth c s₁ B hml hv
  obtain ⟨rfl, hP, hK, hev⟩ := hv
  have hx := B.exec
  have hb := B.bytes
  have hr := B.returns
  have hts := atoms_spec (ws := w_s_holdsInUse) B.pre
  have hown : s.vm.findClass RX6 = some m.cls := findClass_of_methodNamed B.named
  have hlocks := B.notSynchronized
  have inX6 : ∀ w ∈ wsX60, w ∈ w_s_holdsInUse := fun w h => List.mem_cons_of_mem _ (List.mem_append_right _ h)
  have hP : va_P (dC, dI) vwCl [(h0, .inr (4, [w0, w1, w2, w3, .ref q3, w5, w6, w7, w8])), (q3, .inl (c3, 4, .inl f3))] s.heap := hP
  have hl := lv_entry ([.ref h0]) (n := 3) (Nat.le_of_ble_eq_true rfl)
  rw [lg_entry_eq]
  generalize (lg_sl ([.ref h0]) ++ List.replicate (3 - (lg_sl ([.ref h0])).length) Slot.unset).toArray = ls at hl ⊢
  have hl : lv_has ls 3 [(0, .ref h0)] := hl
  refine lv_iconst (v := 0) hx hb dX6_holdsInUse_0 (by decide) ?_
  refine lv_istore_n (lv' := [(1, .int 0), (0, .ref h0)]) hx hb dX6_holdsInUse_1 rfl hl (by decide) rfl (fun ls hl => ?_)
  refine lv_iconst (v := 0) hx hb dX6_holdsInUse_2 (by decide) ?_
  refine lv_istore_n (lv' := [(2, .int 0), (1, .int 0), (0, .ref h0)]) hx hb dX6_holdsInUse_3 rfl hl (by decide) rfl (fun ls hl => ?_)
  refine pp_loop (ι := Int32 × Int32) (fun ⟨v2_4, v1_4⟩ => (4 - v2_4.toInt).toNat) (fun ⟨v2_4, v1_4⟩ H locs ls => (0 ≤ v2_4.toInt) ∧ (v2_4.toInt ≤ 4) ∧ H = s.heap ∧ locs = [] ∧ lv_has ls 3 [(2, .int v2_4), (1, .int v1_4), (0, .ref h0)]) ?_ (0, 0) _ _ _ ⟨(by first | omega | decide | (simp only [fa_lt, fa_le, fa_eq, and_true, true_and, and_false, false_and, not_true_eq_false, not_false_eq_true, li_0, li_1, li_2, li_3, li_4, li_5, li_6, li_7, li_8, li_9, li_10, li_12, li_15, li_16, li_20, li_30, li_34, li_38, li_40, li_63, li_64, li_65, li_78, li_120, li_1000, li_4000, li_10000, li_11077, li_255, li_65535, li_m1, li_m2, li_m1000000001, li_m1000000002, li_m1000000003, li_m1000000004, li_m1000000005, li_m1000000006, li_m1000000007, or_true, true_or, or_false, false_or, implies_true, true_implies, false_implies] <;> omega)), (by first | omega | decide | (simp only [fa_lt, fa_le, fa_eq, and_true, true_and, and_false, false_and, not_true_eq_false, not_false_eq_true, li_0, li_1, li_2, li_3, li_4, li_5, li_6, li_7, li_8, li_9, li_10, li_12, li_15, li_16, li_20, li_30, li_34, li_38, li_40, li_63, li_64, li_65, li_78, li_120, li_1000, li_4000, li_10000, li_11077, li_255, li_65535, li_m1, li_m2, li_m1000000001, li_m1000000002, li_m1000000003, li_m1000000004, li_m1000000005, li_m1000000006, li_m1000000007, or_true, true_or, or_false, false_or, implies_true, true_implies, false_implies] <;> omega)), rfl, rfl, lv_sub hl [0, 1, 2] rfl⟩
  intro k_1 ihk_1 u H locs ls hm hI
  obtain ⟨v2_4, v1_4⟩ := u
  obtain ⟨jk_1_0, jk_1_1, rfl, rfl, hl⟩ := hI
  have hmk_1 : (4 - v2_4.toInt).toNat < k_1 + 1 := hm
  clear hm
  have jk_1_0 : 0 ≤ v2_4.toInt := jk_1_0
  have jk_1_1 : v2_4.toInt ≤ 4 := jk_1_1
  have hl : lv_has ls 3 [(2, .int v2_4), (1, .int v1_4), (0, .ref h0)] := hl
  refine lv_iload_n hx hb dX6_holdsInUse_4 rfl (lv_at hl 0 rfl) ?_
  refine lv_iconst (v := 4) hx hb dX6_holdsInUse_5 (by decide) ?_
  refine lv_icmp_ge (tgt := 27) hx hb dX6_holdsInUse_6 (by decide) (fun c_2 => ?_) (fun c_2 => ?_)
  · skip
    have tc_2 : 4 ≤ v2_4.toInt := (fa_le _ _).mp c_2
    refine lv_iload_n hx hb dX6_holdsInUse_27 rfl (lv_at hl 1 rfl) ?_
    exact W.iret (v := v1_4) hx hb hr (fun t ht hW => ⟨v1_4, rfl, trivial, ht⟩) (fun _ h => absurd h List.not_mem_nil) dX6_holdsInUse_28
  · skip
    have tc_2 : ¬ 4 ≤ v2_4.toInt := fun h => c_2 ((fa_le _ _).mpr h)
    refine lv_aload_n hx hb dX6_holdsInUse_9 rfl (lv_at hl 2 rfl) ?_
    refine va_get (D := (dC, dI)) (ci := 4) (v := .ref q3) (C := RX6) (T := TX6) (N := 9) hx hb hts inX6 hown hK hP 0 rfl rfl 4 (by decide) (hts _ (List.mem_of_getElem? (i := 1) rfl)) (fun _ h9 => h9) rfl dX6_holdsInUse_10 ?_
    refine lv_iload_n hx hb dX6_holdsInUse_13 rfl (lv_at hl 0 rfl) ?_
    refine va_iald hx hb hK hP 1 0 rfl rfl (vp_in_iff.mpr ⟨by omega, by omega⟩) dX6_holdsInUse_14 ?_
    refine lv_topi (fun n_3 en_3 => ?_)
    clear en_3
    refine lv_if_lt (tgt := 21) hx hb dX6_holdsInUse_15 (by decide) (fun c_4 => ?_) (fun c_4 => ?_)
    · skip
      have tc_4 : n_3.toInt < 0 := (fa_lt _ _).mp c_4
      obtain ⟨n_5, en_5⟩ : ∃ y : Int32, y = v2_4 + 1 := ⟨_, rfl⟩
      have tn_5 : n_5.toInt = v2_4.toInt + 1 := pp_add en_5 rfl rfl (by omega) (by omega)
      refine lv_iinc (v := n_5) (lv' := [(2, .int n_5), (1, .int v1_4), (0, .ref h0)]) hx hb dX6_holdsInUse_21 hl (k := 0) rfl (by rw [en_5]; rfl) (by decide) rfl (fun ls hl => ?_)
      clear en_5
      refine lv_goto (tgt := 4) hx hb dX6_holdsInUse_24 (by decide) ?_
      exact ihk_1 (n_5, v1_4) _ _ _ (by show (4 - n_5.toInt).toNat < k_1; omega) ⟨(by first | omega | decide | (simp only [fa_lt, fa_le, fa_eq, and_true, true_and, and_false, false_and, not_true_eq_false, not_false_eq_true, li_0, li_1, li_2, li_3, li_4, li_5, li_6, li_7, li_8, li_9, li_10, li_12, li_15, li_16, li_20, li_30, li_34, li_38, li_40, li_63, li_64, li_65, li_78, li_120, li_1000, li_4000, li_10000, li_11077, li_255, li_65535, li_m1, li_m2, li_m1000000001, li_m1000000002, li_m1000000003, li_m1000000004, li_m1000000005, li_m1000000006, li_m1000000007, or_true, true_or, or_false, false_or, implies_true, true_implies, false_implies] <;> omega)), (by first | omega | decide | (simp only [fa_lt, fa_le, fa_eq, and_true, true_and, and_false, false_and, not_true_eq_false, not_false_eq_true, li_0, li_1, li_2, li_3, li_4, li_5, li_6, li_7, li_8, li_9, li_10, li_12, li_15, li_16, li_20, li_30, li_34, li_38, li_40, li_63, li_64, li_65, li_78, li_120, li_1000, li_4000, li_10000, li_11077, li_255, li_65535, li_m1, li_m2, li_m1000000001, li_m1000000002, li_m1000000003, li_m1000000004, li_m1000000005, li_m1000000006, li_m1000000007, or_true, true_or, or_false, false_or, implies_true, true_implies, false_implies] <;> omega)), rfl, rfl, lv_sub hl [0, 1, 2] rfl⟩
    · skip
      have tc_4 : ¬ n_3.toInt < 0 := fun h => c_4 ((fa_lt _ _).mpr h)
      obtain ⟨n_6, en_6⟩ : ∃ y : Int32, y = v1_4 + 1 := ⟨_, rfl⟩
      refine lv_iinc (v := n_6) (lv' := [(1, .int n_6), (2, .int v2_4), (0, .ref h0)]) hx hb dX6_holdsInUse_18 hl (k := 1) rfl (by rw [en_6]; rfl) (by decide) rfl (fun ls hl => ?_)
      clear en_6
      obtain ⟨n_7, en_7⟩ : ∃ y : Int32, y = v2_4 + 1 := ⟨_, rfl⟩
      have tn_7 : n_7.toInt = v2_4.toInt + 1 := pp_add en_7 rfl rfl (by omega) (by omega)
      refine lv_iinc (v := n_7) (lv' := [(2, .int n_7), (1, .int n_6), (0, .ref h0)]) hx hb dX6_holdsInUse_21 hl (k := 1) rfl (by rw [en_7]; rfl) (by decide) rfl (fun ls hl => ?_)
      clear en_7
      refine lv_goto (tgt := 4) hx hb dX6_holdsInUse_24 (by decide) ?_
      exact ihk_1 (n_7, n_6) _ _ _ (by show (4 - n_7.toInt).toNat < k_1; omega) ⟨(by first | omega | decide | (simp only [fa_lt, fa_le, fa_eq, and_true, true_and, and_false, false_and, not_true_eq_false, not_false_eq_true, li_0, li_1, li_2, li_3, li_4, li_5, li_6, li_7, li_8, li_9, li_10, li_12, li_15, li_16, li_20, li_30, li_34, li_38, li_40, li_63, li_64, li_65, li_78, li_120, li_1000, li_4000, li_10000, li_11077, li_255, li_65535, li_m1, li_m2, li_m1000000001, li_m1000000002, li_m1000000003, li_m1000000004, li_m1000000005, li_m1000000006, li_m1000000007, or_true, true_or, or_false, false_or, implies_true, true_implies, false_implies] <;> omega)), (by first | omega | decide | (simp only [fa_lt, fa_le, fa_eq, and_true, true_and, and_false, false_and, not_true_eq_false, not_false_eq_true, li_0, li_1, li_2, li_3, li_4, li_5, li_6, li_7, li_8, li_9, li_10, li_12, li_15, li_16, li_20, li_30, li_34, li_38, li_40, li_63, li_64, li_65, li_78, li_120, li_1000, li_4000, li_10000, li_11077, li_255, li_65535, li_m1, li_m2, li_m1000000001, li_m1000000002, li_m1000000003, li_m1000000004, li_m1000000005, li_m1000000006, li_m1000000007, or_true, true_or, or_false, false_or, implies_true, true_implies, false_implies] <;> omega)), rfl, rfl, lv_sub hl [0, 1, 2] rfl⟩

def w_s_cellsOfHold : List Cond := .code yX6_cellsOfHold cX6_cellsOfHold 3 (some .long) :: (([.fieldLink RX6 25 "LampShapes$Stage" "heldShapes" "[I", .methodLink RX6 78 yX6_hasShape, .instanceMethod yX6_hasShape, .selects RX6 yX6_hasShape yX6_hasShape, .initialized RX6, .code yX6_hasShape cX6_hasShape 2 (some .boolean), .fieldLink RX6 9 "LampShapes$Stage" "shapes" "I", .methodLink RX6 82 yX6_isTorn, .instanceMethod yX6_isTorn, .selects RX6 yX6_isTorn yX6_isTorn, .code yX6_isTorn cX6_isTorn 2 (some .boolean), .fieldLink RX6 22 "LampShapes$Stage" "tornShapes" "I", .fieldLink RX6 28 "LampShapes$Stage" "heldPlacings" "[I", .methodLink RX6 85 yX6_cellsBy, .instanceMethod yX6_cellsBy, .selects RX6 yX6_cellsBy yX6_cellsBy, .code yX6_cellsBy cX6_cellsBy 4 (some .long), .methodLink RX6 59 yX6_cornerBy, .instanceMethod yX6_cornerBy, .selects RX6 yX6_cornerBy yX6_cornerBy, .code yX6_cornerBy cX6_cornerBy 4 (some .long), .fieldLink RX6 15 "LampShapes$Stage" "kinds" "[I", .fieldLink RX6 19 "LampShapes$Stage" "points" "[I", .methodLink RX6 47 yX0_pointsBy, .static yX0_pointsBy, .initialized RX0, .code yX0_pointsBy cX0_pointsBy 3 (some .int), .methodLink RX0 15 yX0_turnedBy, .static yX0_turnedBy, .code yX0_turnedBy cX0_turnedBy 6 (some .int), .methodLink RX0 19 yX0_mirroredBy, .static yX0_mirroredBy, .code yX0_mirroredBy cX0_mirroredBy 2 (some .int), .constant RX0 31 (34952), .methodLink RX0 22 yX0_hollowed, .static yX0_hollowed, .code yX0_hollowed cX0_hollowed 5 (some .int), .constant RX0 32 (61166), .methodLink RX0 25 yX0_doubled, .static yX0_doubled, .code yX0_doubled cX0_doubled 1 (some .int), .constant RX0 33 (65535), .methodLink RX0 28 yX0_filled, .static yX0_filled, .code yX0_filled cX0_filled 6 (some .int), .methodLink RX6 53 yX1_cellsAtCorner, .static yX1_cellsAtCorner, .initialized RX1, .code yX1_cellsAtCorner cX1_cellsAtCorner 8 (some .long), .constantLong RX1 9 (771), .methodLink RX6 62 yX1_moved, .static yX1_moved, .code yX1_moved cX1_moved 6 (some .long), .constantLong RX1 13 (72340172838076673)] : List Cond) ++ wsX60)
set_option maxRecDepth 20000 in
theorem g_s_cellsOfHold_s_hasShape_78 : GoodIn w_s_cellsOfHold (wsV RX6 78 RX6 yX6_hasShape w_s_hasShape) := goodIn_r _ [2, 3, 4, 5, 6, 7, 55, 56, 57, 58, 59, 60, 61, 62, 63] rfl (by decide +kernel)
set_option maxRecDepth 20000 in
theorem g_s_cellsOfHold_s_isTorn_82 : GoodIn w_s_cellsOfHold (wsV RX6 82 RX6 yX6_isTorn w_s_isTorn) := goodIn_r _ [8, 9, 10, 5, 11, 12, 55, 56, 57, 58, 59, 60, 61, 62, 63] rfl (by decide +kernel)
set_option maxRecDepth 20000 in
theorem g_s_cellsOfHold_s_cellsBy_85 : GoodIn w_s_cellsOfHold (wsV RX6 85 RX6 yX6_cellsBy w_s_cellsBy) := goodIn_r _ [14, 15, 16, 5, 17, 18, 19, 20, 5, 21, 22, 23, 24, 25, 26, 27, 28, 29, 30, 31, 32, 33, 34, 35, 36, 37, 38, 39, 40, 41, 42, 43, 44, 45, 46, 47, 48, 49, 50, 51, 52, 53, 54, 55, 56, 57, 58, 59, 60, 61, 62, 63] rfl (by decide +kernel)
set_option maxHeartbeats 4000000 in
set_option maxRecDepth 100000 in
theorem s_cellsOfHold (l : Launch) (dC : Nat → ClassId) (dI : Nat → Nat → Nat) (ad : Nat → Nat) (h0 : Nat) (k : Int32) (sh : Int32) (q1 : Nat) (q2 : Nat) (tn : Int32) (q3 : Nat) (q4 : Nat) (w6 : Value) (w7 : Value) (w8 : Value) (c1 : ClassId) (f1 : Nat → Int32) (c2 : ClassId) (f2 : Nat → Int32) (c3 : ClassId) (f3 : Nat → Int32) (c4 : ClassId) (f4 : Nat → Int32) (hsh : 0 ≤ sh.toInt ∧ sh.toInt ≤ 9) (hk : 0 ≤ k.toInt ∧ k.toInt ≤ 3) : Met l yX6_cellsOfHold w_s_cellsOfHold ({ frames := 4, cells := 0, slots := 0, locals := 93 } : Room) (va_Pc [.ref h0, .int k] (preS dC dI ad [(c1, .int), (c2, .int), (c3, .int), (c4, .int)] [(h0, .inr (4, [.int sh, .ref q1, .ref q2, .int tn, .ref q3, .ref q4, w6, w7, w8])), (q1, .inl (c1, 9, .inl f1)), (q2, .inl (c2, 9, .inl f2)), (q3, .inl (c3, 4, .inl f3)), (q4, .inl (c4, 4, .inl f4))])) (vp_Sl (fun r => True)) 0 0 (fun _ => False) := by
  refine Met.ofW (cc := cX6_cellsOfHold) (maxL := 3) (ret := (some .long)) (by decide) rfl ?_
  intro p e s m args below meth c s₁ B hml hv
  obtain ⟨rfl, hP, hK, hev⟩ := hv
  have hx := B.exec
  have hb := B.bytes
  have hr := B.returns
  have hts := atoms_spec (ws := w_s_cellsOfHold) B.pre
  have hown : s.vm.findClass RX6 = some m.cls := findClass_of_methodNamed B.named
  have hlocks := B.notSynchronized
  have inX6 : ∀ w ∈ wsX60, w ∈ w_s_cellsOfHold := fun w h => List.mem_cons_of_mem _ (List.mem_append_right _ h)
  have hP : va_P (dC, dI) vwCl [(h0, .inr (4, [.int sh, .ref q1, .ref q2, .int tn, .ref q3, .ref q4, w6, w7, w8])), (q1, .inl (c1, 9, .inl f1)), (q2, .inl (c2, 9, .inl f2)), (q3, .inl (c3, 4, .inl f3)), (q4, .inl (c4, 4, .inl f4))] s.heap := hP
  have hl := lv_entry ([.ref h0, .int k]) (n := 3) (Nat.le_of_ble_eq_true rfl)
  rw [lg_entry_eq]
  generalize (lg_sl ([.ref h0, .int k]) ++ List.replicate (3 - (lg_sl ([.ref h0, .int k])).length) Slot.unset).toArray = ls at hl ⊢
  have hl : lv_has ls 3 [(0, .ref h0), (1, .int k)] := hl
  refine lv_aload_n hx hb dX6_cellsOfHold_0 rfl (lv_at hl 0 rfl) ?_
  refine va_get (D := (dC, dI)) (ci := 4) (v := .ref q3) (C := RX6) (T := TX6) (N := 9) hx hb hts inX6 hown hK hP 0 rfl rfl 4 (by decide) (hts _ (List.mem_of_getElem? (i := 1) rfl)) (fun _ h9 => h9) rfl dX6_cellsOfHold_1 ?_
  refine lv_iload_n hx hb dX6_cellsOfHold_4 rfl (lv_at hl 1 rfl) ?_
  refine va_iald hx hb hK hP 3 2 rfl rfl (vp_in_iff.mpr ⟨by omega, by omega⟩) dX6_cellsOfHold_5 ?_
  refine lv_topi (fun n_1 en_1 => ?_)
  clear en_1
  refine lv_istore_n (lv' := [(2, .int n_1), (0, .ref h0), (1, .int k)]) hx hb dX6_cellsOfHold_6 rfl hl (by decide) rfl (fun ls hl => ?_)
  refine lv_aload_n hx hb dX6_cellsOfHold_7 rfl (lv_at hl 1 rfl) ?_
  refine lv_iload_n hx hb dX6_cellsOfHold_8 rfl (lv_at hl 0 rfl) ?_
  have hPc := hP.sub (ws' := [(h0, .inr (4, [.int sh, .ref q1, .ref q2, .int tn, .ref q3, .ref q4, w6, w7, w8]))]) [0] rfl
  have hKc := hK.sub (tys' := []) [] rfl
  refine vp_callSi (W.runV (As := [.int n_1]) (rest := []) ⟨hx, hb, hml, hown, hts⟩ (s_hasShape l dC dI ad h0 n_1 sh (.ref q1) (.ref q2) (.int tn) (.ref q3) (.ref q4) w6 w7 w8 ) (cwV 1 hts g_s_cellsOfHold_s_hasShape_78 rfl rfl rfl (by decide +kernel) ⟨(Nat.le_of_ble_eq_true rfl), (Nat.le_of_ble_eq_true rfl)⟩) ⟨preS_blind, va_recv hKc hPc (ci := 4) (q0 := 0) rfl rfl, fun U hU hW => ⟨rfl, preS_at hU hW hPc hKc hev⟩⟩ rfl rfl hl.1 rfl (lv_room (Nat.le_of_ble_eq_true rfl)) dX6_cellsOfHold_9 ⟨(Nat.le_of_ble_eq_true rfl), (Nat.le_of_ble_eq_true rfl)⟩) (fun r_2 hw => ?_)
  have hr_2 : (r_2.toInt = 1 ∧ 0 ≤ n_1.toInt ∧ n_1.toInt < sh.toInt) ∨ r_2.toInt = 0 := hw
  refine lv_if_eq (tgt := 23) hx hb dX6_cellsOfHold_12 (by decide) (fun c_3 => ?_) (fun c_3 => ?_)
  · skip
    have tc_3 : r_2.toInt = 0 := (fa_eq _ _).mp c_3
    refine lv_lconst (v := 0) hx hb dX6_cellsOfHold_23 (by decide) ?_
    exact W.lret (v := (0 : Int64)) hx hb hr (fun t ht hW => ⟨(0 : Int64), rfl, trivial, ht⟩) (fun _ h => absurd h List.not_mem_nil) dX6_cellsOfHold_24
  · skip
    have tc_3 : ¬ r_2.toInt = 0 := fun h => c_3 ((fa_eq _ _).mpr h)
    refine lv_aload_n hx hb dX6_cellsOfHold_15 rfl (lv_at hl 1 rfl) ?_
    refine lv_iload_n hx hb dX6_cellsOfHold_16 rfl (lv_at hl 0 rfl) ?_
    have hPc := hP.sub (ws' := [(h0, .inr (4, [.int sh, .ref q1, .ref q2, .int tn, .ref q3, .ref q4, w6, w7, w8]))]) [0] rfl
    have hKc := hK.sub (tys' := []) [] rfl
    refine vp_callSi (W.runV (As := [.int n_1]) (rest := []) ⟨hx, hb, hml, hown, hts⟩ (s_isTorn l dC dI ad h0 n_1 (.int sh) (.ref q1) (.ref q2) tn (.ref q3) (.ref q4) w6 w7 w8 ) (cwV 1 hts g_s_cellsOfHold_s_isTorn_82 rfl rfl rfl (by decide +kernel) ⟨(Nat.le_of_ble_eq_true rfl), (Nat.le_of_ble_eq_true rfl)⟩) ⟨preS_blind, va_recv hKc hPc (ci := 4) (q0 := 0) rfl rfl, fun U hU hW => ⟨rfl, preS_at hU hW hPc hKc hev⟩⟩ rfl rfl hl.1 rfl (lv_room (Nat.le_of_ble_eq_true rfl)) dX6_cellsOfHold_17 ⟨(Nat.le_of_ble_eq_true rfl), (Nat.le_of_ble_eq_true rfl)⟩) (fun r_4 hw => ?_)
    refine lv_if_eq (tgt := 25) hx hb dX6_cellsOfHold_20 (by decide) (fun c_5 => ?_) (fun c_5 => ?_)
    · skip
      have tc_5 : r_4.toInt = 0 := (fa_eq _ _).mp c_5
      refine lv_aload_n hx hb dX6_cellsOfHold_25 rfl (lv_at hl 1 rfl) ?_
      refine lv_iload_n hx hb dX6_cellsOfHold_26 rfl (lv_at hl 0 rfl) ?_
      refine lv_aload_n hx hb dX6_cellsOfHold_27 rfl (lv_at hl 1 rfl) ?_
      refine va_get (D := (dC, dI)) (ci := 4) (v := .ref q4) (C := RX6) (T := TX6) (N := 9) hx hb hts inX6 hown hK hP 0 rfl rfl 5 (by decide) (hts _ (List.mem_of_getElem? (i := 13) rfl)) (fun _ h9 => h9) rfl dX6_cellsOfHold_28 ?_
      refine lv_iload_n hx hb dX6_cellsOfHold_31 rfl (lv_at hl 2 rfl) ?_
      refine va_iald hx hb hK hP 4 3 rfl rfl (vp_in_iff.mpr ⟨by omega, by omega⟩) dX6_cellsOfHold_32 ?_
      refine lv_topi (fun n_6 en_6 => ?_)
      clear en_6
      have hPc := hP.sub (ws' := [(h0, .inr (4, [.int sh, .ref q1, .ref q2, .int tn, .ref q3, .ref q4, w6, w7, w8])), (q1, .inl (c1, 9, .inl f1)), (q2, .inl (c2, 9, .inl f2))]) [0, 1, 2] rfl
      have hKc := hK.sub (tys' := [(c1, .int), (c2, .int)]) [0, 1] rfl
      refine vp_callSl (W.runV (As := [.int n_1, .int n_6]) (rest := []) ⟨hx, hb, hml, hown, hts⟩ (s_cellsBy l dC dI ad h0 n_1 n_6 (.int sh) q1 q2 (.int tn) (.ref q3) (.ref q4) w6 w7 w8 c1 f1 c2 f2 (by first | omega | decide | (simp only [fa_lt, fa_le, fa_eq, and_true, true_and, and_false, false_and, not_true_eq_false, not_false_eq_true, li_0, li_1, li_2, li_3, li_4, li_5, li_6, li_7, li_8, li_9, li_10, li_12, li_15, li_16, li_20, li_30, li_34, li_38, li_40, li_63, li_64, li_65, li_78, li_120, li_1000, li_4000, li_10000, li_11077, li_255, li_65535, li_m1, li_m2, li_m1000000001, li_m1000000002, li_m1000000003, li_m1000000004, li_m1000000005, li_m1000000006, li_m1000000007, or_true, true_or, or_false, false_or, implies_true, true_implies, false_implies] <;> omega))) (cwV 2 hts g_s_cellsOfHold_s_cellsBy_85 rfl rfl rfl (by decide +kernel) ⟨(Nat.le_of_ble_eq_true rfl), (Nat.le_of_ble_eq_true rfl)⟩) ⟨preS_blind, va_recv hKc hPc (ci := 4) (q0 := 0) rfl rfl, fun U hU hW => ⟨rfl, preS_at hU hW hPc hKc hev⟩⟩ rfl rfl hl.1 rfl (lv_room (Nat.le_of_ble_eq_true rfl)) dX6_cellsOfHold_33 ⟨(Nat.le_of_ble_eq_true rfl), (Nat.le_of_ble_eq_true rfl)⟩) (fun r_7 hw => ?_)
      exact W.lret (v := r_7) hx hb hr (fun t ht hW => ⟨r_7, rfl, trivial, ht⟩) (fun _ h => absurd h List.not_mem_nil) dX6_cellsOfHold_36
    · skip
      have tc_5 : ¬ r_4.toInt = 0 := fun h => c_5 ((fa_eq _ _).mpr h)
      refine lv_lconst (v := 0) hx hb dX6_cellsOfHold_23 (by decide) ?_
      exact W.lret (v := (0 : Int64)) hx hb hr (fun t ht hW => ⟨(0 : Int64), rfl, trivial, ht⟩) (fun _ h => absurd h List.not_mem_nil) dX6_cellsOfHold_24

def w_s_darkCells : List Cond := .code yX6_darkCells cX6_darkCells 4 (some .long) :: (([.methodLink RX6 88 yX6_cellsOfHold, .instanceMethod yX6_cellsOfHold, .selects RX6 yX6_cellsOfHold yX6_cellsOfHold, .initialized RX6, .code yX6_cellsOfHold cX6_cellsOfHold 3 (some .long), .fieldLink RX6 25 "LampShapes$Stage" "heldShapes" "[I", .methodLink RX6 78 yX6_hasShape, .instanceMethod yX6_hasShape, .selects RX6 yX6_hasShape yX6_hasShape, .code yX6_hasShape cX6_hasShape 2 (some .boolean), .fieldLink RX6 9 "LampShapes$Stage" "shapes" "I", .methodLink RX6 82 yX6_isTorn, .instanceMethod yX6_isTorn, .selects RX6 yX6_isTorn yX6_isTorn, .code yX6_isTorn cX6_isTorn 2 (some .boolean), .fieldLink RX6 22 "LampShapes$Stage" "tornShapes" "I", .fieldLink RX6 28 "LampShapes$Stage" "heldPlacings" "[I", .methodLink RX6 85 yX6_cellsBy, .instanceMethod yX6_cellsBy, .selects RX6 yX6_cellsBy yX6_cellsBy, .code yX6_cellsBy cX6_cellsBy 4 (some .long), .methodLink RX6 59 yX6_cornerBy, .instanceMethod yX6_cornerBy, .selects RX6 yX6_cornerBy yX6_cornerBy, .code yX6_cornerBy cX6_cornerBy 4 (some .long), .fieldLink RX6 15 "LampShapes$Stage" "kinds" "[I", .fieldLink RX6 19 "LampShapes$Stage" "points" "[I", .methodLink RX6 47 yX0_pointsBy, .static yX0_pointsBy, .initialized RX0, .code yX0_pointsBy cX0_pointsBy 3 (some .int), .methodLink RX0 15 yX0_turnedBy, .static yX0_turnedBy, .code yX0_turnedBy cX0_turnedBy 6 (some .int), .methodLink RX0 19 yX0_mirroredBy, .static yX0_mirroredBy, .code yX0_mirroredBy cX0_mirroredBy 2 (some .int), .constant RX0 31 (34952), .methodLink RX0 22 yX0_hollowed, .static yX0_hollowed, .code yX0_hollowed cX0_hollowed 5 (some .int), .constant RX0 32 (61166), .methodLink RX0 25 yX0_doubled, .static yX0_doubled, .code yX0_doubled cX0_doubled 1 (some .int), .constant RX0 33 (65535), .methodLink RX0 28 yX0_filled, .static yX0_filled, .code yX0_filled cX0_filled 6 (some .int), .methodLink RX6 53 yX1_cellsAtCorner, .static yX1_cellsAtCorner, .initialized RX1, .code yX1_cellsAtCorner cX1_cellsAtCorner 8 (some .long), .constantLong RX1 9 (771), .methodLink RX6 62 yX1_moved, .static yX1_moved, .code yX1_moved cX1_moved 6 (some .long), .constantLong RX1 13 (72340172838076673)] : List Cond) ++ wsX60)
set_option maxRecDepth 20000 in
theorem g_s_darkCells_s_cellsOfHold_88 : GoodIn w_s_darkCells (wsV RX6 88 RX6 yX6_cellsOfHold w_s_cellsOfHold) := goodIn_r _ [1, 2, 3, 4, 5, 6, 7, 8, 9, 4, 10, 11, 12, 13, 14, 15, 16, 17, 18, 19, 20, 21, 22, 23, 24, 25, 26, 27, 28, 29, 30, 31, 32, 33, 34, 35, 36, 37, 38, 39, 40, 41, 42, 43, 44, 45, 46, 47, 48, 49, 50, 51, 52, 53, 54, 55, 56, 57, 58, 59, 60, 61, 62, 63, 64, 65, 66, 67] rfl (by decide +kernel)
set_option maxHeartbeats 4000000 in
set_option maxRecDepth 100000 in
theorem s_darkCells (l : Launch) (dC : Nat → ClassId) (dI : Nat → Nat → Nat) (ad : Nat → Nat) (h0 : Nat) (sh : Int32) (q1 : Nat) (q2 : Nat) (tn : Int32) (q3 : Nat) (q4 : Nat) (w6 : Value) (w7 : Value) (w8 : Value) (c1 : ClassId) (f1 : Nat → Int32) (c2 : ClassId) (f2 : Nat → Int32) (c3 : ClassId) (f3 : Nat → Int32) (c4 : ClassId) (f4 : Nat → Int32) (hsh : 0 ≤ sh.toInt ∧ sh.toInt ≤ 9) : Met l yX6_darkCells w_s_darkCells ({ frames := 5, cells := 0, slots := 0, locals := 115 } : Room) (va_Pc [.ref h0] (preS dC dI ad [(c1, .int), (c2, .int), (c3, .int), (c4, .int)] [(h0, .inr (4, [.int sh, .ref q1, .ref q2, .int tn, .ref q3, .ref q4, w6, w7, w8])), (q1, .inl (c1, 9, .inl f1)), (q2, .inl (c2, 9, .inl f2)), (q3, .inl (c3, 4, .inl f3)), (q4, .inl (c4, 4, .inl f4))])) (vp_Sl (fun r => True)) 0 0 (fun _ => False) := by
  refine Met.ofW (cc := cX6_darkCells) (maxL := 4) (ret := (some .long)) (by decide) rfl ?_
  intro p e s m args below meth c s₁ B hml hv
  obtain ⟨rfl, hP, hK, hev⟩ := hv
  have hx := B.exec
  have hb := B.bytes
  have hr := B.returns
  have hts := atoms_spec (ws := w_s_darkCells) B.pre
  have hown : s.vm.findClass RX6 = some m.cls := findClass_of_methodNamed B.named
  have hlocks := B.notSynchronized
  have inX6 : ∀ w ∈ wsX60, w ∈ w_s_darkCells := fun w h => List.mem_cons_of_mem _ (List.mem_append_right _ h)
  have hP : va_P (dC, dI) vwCl [(h0, .inr (4, [.int sh, .ref q1, .ref q2, .int tn, .ref q3, .ref q4, w6, w7, w8])), (q1, .inl (c1, 9, .inl f1)), (q2, .inl (c2, 9, .inl f2)), (q3, .inl (c3, 4, .inl f3)), (q4, .inl (c4, 4, .inl f4))] s.heap := hP
  have hl := lv_entry ([.ref h0]) (n := 4) (Nat.le_of_ble_eq_true rfl)
  rw [lg_entry_eq]
  generalize (lg_sl ([.ref h0]) ++ List.replicate (4 - (lg_sl ([.ref h0])).length) Slot.unset).toArray = ls at hl ⊢
  have hl : lv_has ls 4 [(0, .ref h0)] := hl
  refine lv_lconst (v := 0) hx hb dX6_darkCells_0 (by decide) ?_
  refine lv_lstore_n (lv' := [(1, .long 0), (0, .ref h0)]) hx hb dX6_darkCells_1 rfl hl (by decide) rfl (fun ls hl => ?_)
  refine lv_iconst (v := 0) hx hb dX6_darkCells_2 (by decide) ?_
  refine lv_istore_n (lv' := [(3, .int 0), (1, .long 0), (0, .ref h0)]) hx hb dX6_darkCells_3 rfl hl (by decide) rfl (fun ls hl => ?_)
  refine pp_loop (ι := Int32 × Int64) (fun ⟨v3_4, v1_4⟩ => (4 - v3_4.toInt).toNat) (fun ⟨v3_4, v1_4⟩ H locs ls => (0 ≤ v3_4.toInt) ∧ (v3_4.toInt ≤ 4) ∧ H = s.heap ∧ locs = [] ∧ lv_has ls 4 [(3, .int v3_4), (1, .long v1_4), (0, .ref h0)]) ?_ (0, 0) _ _ _ ⟨(by first | omega | decide | (simp only [fa_lt, fa_le, fa_eq, and_true, true_and, and_false, false_and, not_true_eq_false, not_false_eq_true, li_0, li_1, li_2, li_3, li_4, li_5, li_6, li_7, li_8, li_9, li_10, li_12, li_15, li_16, li_20, li_30, li_34, li_38, li_40, li_63, li_64, li_65, li_78, li_120, li_1000, li_4000, li_10000, li_11077, li_255, li_65535, li_m1, li_m2, li_m1000000001, li_m1000000002, li_m1000000003, li_m1000000004, li_m1000000005, li_m1000000006, li_m1000000007, or_true, true_or, or_false, false_or, implies_true, true_implies, false_implies] <;> omega)), (by first | omega | decide | (simp only [fa_lt, fa_le, fa_eq, and_true, true_and, and_false, false_and, not_true_eq_false, not_false_eq_true, li_0, li_1, li_2, li_3, li_4, li_5, li_6, li_7, li_8, li_9, li_10, li_12, li_15, li_16, li_20, li_30, li_34, li_38, li_40, li_63, li_64, li_65, li_78, li_120, li_1000, li_4000, li_10000, li_11077, li_255, li_65535, li_m1, li_m2, li_m1000000001, li_m1000000002, li_m1000000003, li_m1000000004, li_m1000000005, li_m1000000006, li_m1000000007, or_true, true_or, or_false, false_or, implies_true, true_implies, false_implies] <;> omega)), rfl, rfl, lv_sub hl [0, 1, 2] rfl⟩
  intro k_1 ihk_1 u H locs ls hm hI
  obtain ⟨v3_4, v1_4⟩ := u
  obtain ⟨jk_1_0, jk_1_1, rfl, rfl, hl⟩ := hI
  have hmk_1 : (4 - v3_4.toInt).toNat < k_1 + 1 := hm
  clear hm
  have jk_1_0 : 0 ≤ v3_4.toInt := jk_1_0
  have jk_1_1 : v3_4.toInt ≤ 4 := jk_1_1
  have hl : lv_has ls 4 [(3, .int v3_4), (1, .long v1_4), (0, .ref h0)] := hl
  refine lv_iload_n hx hb dX6_darkCells_4 rfl (lv_at hl 0 rfl) ?_
  refine lv_iconst (v := 4) hx hb dX6_darkCells_5 (by decide) ?_
  refine lv_icmp_ge (tgt := 23) hx hb dX6_darkCells_6 (by decide) (fun c_2 => ?_) (fun c_2 => ?_)
  · skip
    have tc_2 : 4 ≤ v3_4.toInt := (fa_le _ _).mp c_2
    refine lv_lload_n hx hb dX6_darkCells_23 rfl (lv_at hl 1 rfl) ?_
    exact W.lret (v := v1_4) hx hb hr (fun t ht hW => ⟨v1_4, rfl, trivial, ht⟩) (fun _ h => absurd h List.not_mem_nil) dX6_darkCells_24
  · skip
    have tc_2 : ¬ 4 ≤ v3_4.toInt := fun h => c_2 ((fa_le _ _).mpr h)
    refine lv_lload_n hx hb dX6_darkCells_9 rfl (lv_at hl 1 rfl) ?_
    refine lv_aload_n hx hb dX6_darkCells_10 rfl (lv_at hl 2 rfl) ?_
    refine lv_iload_n hx hb dX6_darkCells_11 rfl (lv_at hl 0 rfl) ?_
    have hPc := hP.sub (ws' := [(h0, .inr (4, [.int sh, .ref q1, .ref q2, .int tn, .ref q3, .ref q4, w6, w7, w8])), (q1, .inl (c1, 9, .inl f1)), (q2, .inl (c2, 9, .inl f2)), (q3, .inl (c3, 4, .inl f3)), (q4, .inl (c4, 4, .inl f4))]) [0, 1, 2, 3, 4] rfl
    have hKc := hK.sub (tys' := [(c1, .int), (c2, .int), (c3, .int), (c4, .int)]) [0, 1, 2, 3] rfl
    refine vp_callSl (W.runV (As := [.int v3_4]) (rest := [.long v1_4]) ⟨hx, hb, hml, hown, hts⟩ (s_cellsOfHold l dC dI ad h0 v3_4 sh q1 q2 tn q3 q4 w6 w7 w8 c1 f1 c2 f2 c3 f3 c4 f4 hsh (by first | omega | decide | (simp only [fa_lt, fa_le, fa_eq, and_true, true_and, and_false, false_and, not_true_eq_false, not_false_eq_true, li_0, li_1, li_2, li_3, li_4, li_5, li_6, li_7, li_8, li_9, li_10, li_12, li_15, li_16, li_20, li_30, li_34, li_38, li_40, li_63, li_64, li_65, li_78, li_120, li_1000, li_4000, li_10000, li_11077, li_255, li_65535, li_m1, li_m2, li_m1000000001, li_m1000000002, li_m1000000003, li_m1000000004, li_m1000000005, li_m1000000006, li_m1000000007, or_true, true_or, or_false, false_or, implies_true, true_implies, false_implies] <;> omega))) (cwV 1 hts g_s_darkCells_s_cellsOfHold_88 rfl rfl rfl (by decide +kernel) ⟨(Nat.le_of_ble_eq_true rfl), (Nat.le_of_ble_eq_true rfl)⟩) ⟨preS_blind, va_recv hKc hPc (ci := 4) (q0 := 0) rfl rfl, fun U hU hW => ⟨rfl, preS_at hU hW hPc hKc hev⟩⟩ rfl rfl hl.1 rfl (lv_room (Nat.le_of_ble_eq_true rfl)) dX6_darkCells_12 ⟨(Nat.le_of_ble_eq_true rfl), (Nat.le_of_ble_eq_true rfl)⟩) (fun r_3 hw => ?_)
    refine lv_lor hx hb dX6_darkCells_15 ?_
    refine lv_topl (fun n_4 en_4 => ?_)
    clear en_4
    refine lv_lstore_n (lv' := [(1, .long n_4), (3, .int v3_4), (0, .ref h0)]) hx hb dX6_darkCells_16 rfl hl (by decide) rfl (fun ls hl => ?_)
    obtain ⟨n_5, en_5⟩ : ∃ y : Int32, y = v3_4 + 1 := ⟨_, rfl⟩
    have tn_5 : n_5.toInt = v3_4.toInt + 1 := pp_add en_5 rfl rfl (by omega) (by omega)
    refine lv_iinc (v := n_5) (lv' := [(3, .int n_5), (1, .long n_4), (0, .ref h0)]) hx hb dX6_darkCells_17 hl (k := 1) rfl (by rw [en_5]; rfl) (by decide) rfl (fun ls hl => ?_)
    clear en_5
    refine lv_goto (tgt := 4) hx hb dX6_darkCells_20 (by decide) ?_
    exact ihk_1 (n_5, n_4) _ _ _ (by show (4 - n_5.toInt).toNat < k_1; omega) ⟨(by first | omega | decide | (simp only [fa_lt, fa_le, fa_eq, and_true, true_and, and_false, false_and, not_true_eq_false, not_false_eq_true, li_0, li_1, li_2, li_3, li_4, li_5, li_6, li_7, li_8, li_9, li_10, li_12, li_15, li_16, li_20, li_30, li_34, li_38, li_40, li_63, li_64, li_65, li_78, li_120, li_1000, li_4000, li_10000, li_11077, li_255, li_65535, li_m1, li_m2, li_m1000000001, li_m1000000002, li_m1000000003, li_m1000000004, li_m1000000005, li_m1000000006, li_m1000000007, or_true, true_or, or_false, false_or, implies_true, true_implies, false_implies] <;> omega)), (by first | omega | decide | (simp only [fa_lt, fa_le, fa_eq, and_true, true_and, and_false, false_and, not_true_eq_false, not_false_eq_true, li_0, li_1, li_2, li_3, li_4, li_5, li_6, li_7, li_8, li_9, li_10, li_12, li_15, li_16, li_20, li_30, li_34, li_38, li_40, li_63, li_64, li_65, li_78, li_120, li_1000, li_4000, li_10000, li_11077, li_255, li_65535, li_m1, li_m2, li_m1000000001, li_m1000000002, li_m1000000003, li_m1000000004, li_m1000000005, li_m1000000006, li_m1000000007, or_true, true_or, or_false, false_or, implies_true, true_implies, false_implies] <;> omega)), rfl, rfl, lv_sub hl [0, 1, 2] rfl⟩

def w_s_singleCells : List Cond := .code yX6_singleCells cX6_singleCells 8 (some .long) :: (([.constantLong RX6 92 (-1), .methodLink RX6 88 yX6_cellsOfHold, .instanceMethod yX6_cellsOfHold, .selects RX6 yX6_cellsOfHold yX6_cellsOfHold, .initialized RX6, .code yX6_cellsOfHold cX6_cellsOfHold 3 (some .long), .fieldLink RX6 25 "LampShapes$Stage" "heldShapes" "[I", .methodLink RX6 78 yX6_hasShape, .instanceMethod yX6_hasShape, .selects RX6 yX6_hasShape yX6_hasShape, .code yX6_hasShape cX6_hasShape 2 (some .boolean), .fieldLink RX6 9 "LampShapes$Stage" "shapes" "I", .methodLink RX6 82 yX6_isTorn, .instanceMethod yX6_isTorn, .selects RX6 yX6_isTorn yX6_isTorn, .code yX6_isTorn cX6_isTorn 2 (some .boolean), .fieldLink RX6 22 "LampShapes$Stage" "tornShapes" "I", .fieldLink RX6 28 "LampShapes$Stage" "heldPlacings" "[I", .methodLink RX6 85 yX6_cellsBy, .instanceMethod yX6_cellsBy, .selects RX6 yX6_cellsBy yX6_cellsBy, .code yX6_cellsBy cX6_cellsBy 4 (some .long), .methodLink RX6 59 yX6_cornerBy, .instanceMethod yX6_cornerBy, .selects RX6 yX6_cornerBy yX6_cornerBy, .code yX6_cornerBy cX6_cornerBy 4 (some .long), .fieldLink RX6 15 "LampShapes$Stage" "kinds" "[I", .fieldLink RX6 19 "LampShapes$Stage" "points" "[I", .methodLink RX6 47 yX0_pointsBy, .static yX0_pointsBy, .initialized RX0, .code yX0_pointsBy cX0_pointsBy 3 (some .int), .methodLink RX0 15 yX0_turnedBy, .static yX0_turnedBy, .code yX0_turnedBy cX0_turnedBy 6 (some .int), .methodLink RX0 19 yX0_mirroredBy, .static yX0_mirroredBy, .code yX0_mirroredBy cX0_mirroredBy 2 (some .int), .constant RX0 31 (34952), .methodLink RX0 22 yX0_hollowed, .static yX0_hollowed, .code yX0_hollowed cX0_hollowed 5 (some .int), .constant RX0 32 (61166), .methodLink RX0 25 yX0_doubled, .static yX0_doubled, .code yX0_doubled cX0_doubled 1 (some .int), .constant RX0 33 (65535), .methodLink RX0 28 yX0_filled, .static yX0_filled, .code yX0_filled cX0_filled 6 (some .int), .methodLink RX6 53 yX1_cellsAtCorner, .static yX1_cellsAtCorner, .initialized RX1, .code yX1_cellsAtCorner cX1_cellsAtCorner 8 (some .long), .constantLong RX1 9 (771), .methodLink RX6 62 yX1_moved, .static yX1_moved, .code yX1_moved cX1_moved 6 (some .long), .constantLong RX1 13 (72340172838076673)] : List Cond) ++ wsX60)
set_option maxRecDepth 20000 in
theorem g_s_singleCells_s_cellsOfHold_88 : GoodIn w_s_singleCells (wsV RX6 88 RX6 yX6_cellsOfHold w_s_cellsOfHold) := goodIn_r _ [2, 3, 4, 5, 6, 7, 8, 9, 10, 5, 11, 12, 13, 14, 15, 16, 17, 18, 19, 20, 21, 22, 23, 24, 25, 26, 27, 28, 29, 30, 31, 32, 33, 34, 35, 36, 37, 38, 39, 40, 41, 42, 43, 44, 45, 46, 47, 48, 49, 50, 51, 52, 53, 54, 55, 56, 57, 58, 59, 60, 61, 62, 63, 64, 65, 66, 67, 68] rfl (by decide +kernel)
set_option maxHeartbeats 4000000 in
set_option maxRecDepth 100000 in
theorem s_singleCells (l : Launch) (dC : Nat → ClassId) (dI : Nat → Nat → Nat) (ad : Nat → Nat) (h0 : Nat) (sh : Int32) (q1 : Nat) (q2 : Nat) (tn : Int32) (q3 : Nat) (q4 : Nat) (w6 : Value) (w7 : Value) (w8 : Value) (c1 : ClassId) (f1 : Nat → Int32) (c2 : ClassId) (f2 : Nat → Int32) (c3 : ClassId) (f3 : Nat → Int32) (c4 : ClassId) (f4 : Nat → Int32) (hsh : 0 ≤ sh.toInt ∧ sh.toInt ≤ 9) : Met l yX6_singleCells w_s_singleCells ({ frames := 5, cells := 0, slots := 0, locals := 115 } : Room) (va_Pc [.ref h0] (preS dC dI ad [(c1, .int), (c2, .int), (c3, .int), (c4, .int)] [(h0, .inr (4, [.int sh, .ref q1, .ref q2, .int tn, .ref q3, .ref q4, w6, w7, w8])), (q1, .inl (c1, 9, .inl f1)), (q2, .inl (c2, 9, .inl f2)), (q3, .inl (c3, 4, .inl f3)), (q4, .inl (c4, 4, .inl f4))])) (vp_Sl (fun r => True)) 0 0 (fun _ => False) := by
  refine Met.ofW (cc := cX6_singleCells) (maxL := 8) (ret := (some .long)) (by decide) rfl ?_
  intro p e s m args below meth c s₁ B hml hv
  obtain ⟨rfl, hP, hK, hev⟩ := hv
  have hx := B.exec
  have hb := B.bytes
  have hr := B.returns
  have hts := atoms_spec (ws := w_s_singleCells) B.pre
  have hown : s.vm.findClass RX6 = some m.cls := findClass_of_methodNamed B.named
  have hlocks := B.notSynchronized
  have inX6 : ∀ w ∈ wsX60, w ∈ w_s_singleCells := fun w h => List.mem_cons_of_mem _ (List.mem_append_right _ h)
  have hP : va_P (dC, dI) vwCl [(h0, .inr (4, [.int sh, .ref q1, .ref q2, .int tn, .ref q3, .ref q4, w6, w7, w8])), (q1, .inl (c1, 9, .inl f1)), (q2, .inl (c2, 9, .inl f2)), (q3, .inl (c3, 4, .inl f3)), (q4, .inl (c4, 4, .inl f4))] s.heap := hP
  have hl := lv_entry ([.ref h0]) (n := 8) (Nat.le_of_ble_eq_true rfl)
  rw [lg_entry_eq]
  generalize (lg_sl ([.ref h0]) ++ List.replicate (8 - (lg_sl ([.ref h0])).length) Slot.unset).toArray = ls at hl ⊢
  have hl : lv_has ls 8 [(0, .ref h0)] := hl
  refine lv_lconst (v := 0) hx hb dX6_singleCells_0 (by decide) ?_
  refine lv_lstore_n (lv' := [(1, .long 0), (0, .ref h0)]) hx hb dX6_singleCells_1 rfl hl (by decide) rfl (fun ls hl => ?_)
  refine lv_lconst (v := 0) hx hb dX6_singleCells_2 (by decide) ?_
  refine lv_lstore_n (lv' := [(3, .long 0), (1, .long 0), (0, .ref h0)]) hx hb dX6_singleCells_3 rfl hl (by decide) rfl (fun ls hl => ?_)
  refine lv_iconst (v := 0) hx hb dX6_singleCells_4 (by decide) ?_
  refine lv_istore (lv' := [(5, .int 0), (3, .long 0), (1, .long 0), (0, .ref h0)]) hx hb dX6_singleCells_5 hl (by decide) rfl (fun ls hl => ?_)
  refine pp_loop (ι := Int32 × Int64 × Int64) (fun ⟨v5_7, v3_7, v1_7⟩ => (4 - v5_7.toInt).toNat) (fun ⟨v5_7, v3_7, v1_7⟩ H locs ls => (0 ≤ v5_7.toInt) ∧ (v5_7.toInt ≤ 4) ∧ H = s.heap ∧ locs = [] ∧ lv_has ls 8 [(5, .int v5_7), (3, .long v3_7), (1, .long v1_7), (0, .ref h0)]) ?_ (0, 0, 0) _ _ _ ⟨(by first | omega | decide | (simp only [fa_lt, fa_le, fa_eq, and_true, true_and, and_false, false_and, not_true_eq_false, not_false_eq_true, li_0, li_1, li_2, li_3, li_4, li_5, li_6, li_7, li_8, li_9, li_10, li_12, li_15, li_16, li_20, li_30, li_34, li_38, li_40, li_63, li_64, li_65, li_78, li_120, li_1000, li_4000, li_10000, li_11077, li_255, li_65535, li_m1, li_m2, li_m1000000001, li_m1000000002, li_m1000000003, li_m1000000004, li_m1000000005, li_m1000000006, li_m1000000007, or_true, true_or, or_false, false_or, implies_true, true_implies, false_implies] <;> omega)), (by first | omega | decide | (simp only [fa_lt, fa_le, fa_eq, and_true, true_and, and_false, false_and, not_true_eq_false, not_false_eq_true, li_0, li_1, li_2, li_3, li_4, li_5, li_6, li_7, li_8, li_9, li_10, li_12, li_15, li_16, li_20, li_30, li_34, li_38, li_40, li_63, li_64, li_65, li_78, li_120, li_1000, li_4000, li_10000, li_11077, li_255, li_65535, li_m1, li_m2, li_m1000000001, li_m1000000002, li_m1000000003, li_m1000000004, li_m1000000005, li_m1000000006, li_m1000000007, or_true, true_or, or_false, false_or, implies_true, true_implies, false_implies] <;> omega)), rfl, rfl, lv_sub hl [0, 1, 2, 3] rfl⟩
  intro k_1 ihk_1 u H locs ls hm hI
  obtain ⟨v5_7, v3_7, v1_7⟩ := u
  obtain ⟨jk_1_0, jk_1_1, rfl, rfl, hl⟩ := hI
  have hmk_1 : (4 - v5_7.toInt).toNat < k_1 + 1 := hm
  clear hm
  have jk_1_0 : 0 ≤ v5_7.toInt := jk_1_0
  have jk_1_1 : v5_7.toInt ≤ 4 := jk_1_1
  have hl : lv_has ls 8 [(5, .int v5_7), (3, .long v3_7), (1, .long v1_7), (0, .ref h0)] := hl
  refine lv_iload hx hb dX6_singleCells_7 (lv_at hl 0 rfl) ?_
  refine lv_iconst (v := 4) hx hb dX6_singleCells_9 (by decide) ?_
  refine lv_icmp_ge (tgt := 39) hx hb dX6_singleCells_10 (by decide) (fun c_2 => ?_) (fun c_2 => ?_)
  · skip
    have tc_2 : 4 ≤ v5_7.toInt := (fa_le _ _).mp c_2
    refine lv_lload_n hx hb dX6_singleCells_39 rfl (lv_at hl 2 rfl) ?_
    refine lv_lload_n hx hb dX6_singleCells_40 rfl (lv_at hl 1 rfl) ?_
    refine lv_ldc2 hx hb hown (hts _ (List.mem_of_getElem? (i := 1) rfl)) dX6_singleCells_41 ?_
    refine lv_lxor hx hb dX6_singleCells_44 ?_
    refine lv_topl (fun n_3 en_3 => ?_)
    clear en_3
    refine lv_land hx hb dX6_singleCells_45 ?_
    refine lv_topl (fun n_4 en_4 => ?_)
    clear en_4
    exact W.lret (v := n_4) hx hb hr (fun t ht hW => ⟨n_4, rfl, trivial, ht⟩) (fun _ h => absurd h List.not_mem_nil) dX6_singleCells_46
  · skip
    have tc_2 : ¬ 4 ≤ v5_7.toInt := fun h => c_2 ((fa_le _ _).mpr h)
    refine lv_aload_n hx hb dX6_singleCells_13 rfl (lv_at hl 3 rfl) ?_
    refine lv_iload hx hb dX6_singleCells_14 (lv_at hl 0 rfl) ?_
    have hPc := hP.sub (ws' := [(h0, .inr (4, [.int sh, .ref q1, .ref q2, .int tn, .ref q3, .ref q4, w6, w7, w8])), (q1, .inl (c1, 9, .inl f1)), (q2, .inl (c2, 9, .inl f2)), (q3, .inl (c3, 4, .inl f3)), (q4, .inl (c4, 4, .inl f4))]) [0, 1, 2, 3, 4] rfl
    have hKc := hK.sub (tys' := [(c1, .int), (c2, .int), (c3, .int), (c4, .int)]) [0, 1, 2, 3] rfl
    refine vp_callSl (W.runV (As := [.int v5_7]) (rest := []) ⟨hx, hb, hml, hown, hts⟩ (s_cellsOfHold l dC dI ad h0 v5_7 sh q1 q2 tn q3 q4 w6 w7 w8 c1 f1 c2 f2 c3 f3 c4 f4 hsh (by first | omega | decide | (simp only [fa_lt, fa_le, fa_eq, and_true, true_and, and_false, false_and, not_true_eq_false, not_false_eq_true, li_0, li_1, li_2, li_3, li_4, li_5, li_6, li_7, li_8, li_9, li_10, li_12, li_15, li_16, li_20, li_30, li_34, li_38, li_40, li_63, li_64, li_65, li_78, li_120, li_1000, li_4000, li_10000, li_11077, li_255, li_65535, li_m1, li_m2, li_m1000000001, li_m1000000002, li_m1000000003, li_m1000000004, li_m1000000005, li_m1000000006, li_m1000000007, or_true, true_or, or_false, false_or, implies_true, true_implies, false_implies] <;> omega))) (cwV 1 hts g_s_singleCells_s_cellsOfHold_88 rfl rfl rfl (by decide +kernel) ⟨(Nat.le_of_ble_eq_true rfl), (Nat.le_of_ble_eq_true rfl)⟩) ⟨preS_blind, va_recv hKc hPc (ci := 4) (q0 := 0) rfl rfl, fun U hU hW => ⟨rfl, preS_at hU hW hPc hKc hev⟩⟩ rfl rfl hl.1 rfl (lv_room (Nat.le_of_ble_eq_true rfl)) dX6_singleCells_16 ⟨(Nat.le_of_ble_eq_true rfl), (Nat.le_of_ble_eq_true rfl)⟩) (fun r_5 hw => ?_)
    refine lv_lstore (lv' := [(6, .long r_5), (5, .int v5_7), (3, .long v3_7), (1, .long v1_7), (0, .ref h0)]) hx hb dX6_singleCells_19 hl (by decide) rfl (fun ls hl => ?_)
    refine lv_lload_n hx hb dX6_singleCells_21 rfl (lv_at hl 2 rfl) ?_
    refine lv_lload_n hx hb dX6_singleCells_22 rfl (lv_at hl 3 rfl) ?_
    refine lv_lload hx hb dX6_singleCells_23 (lv_at hl 0 rfl) ?_
    refine lv_land hx hb dX6_singleCells_25 ?_
    refine lv_topl (fun n_6 en_6 => ?_)
    clear en_6
    refine lv_lor hx hb dX6_singleCells_26 ?_
    refine lv_topl (fun n_7 en_7 => ?_)
    clear en_7
    refine lv_lstore_n (lv' := [(3, .long n_7), (6, .long r_5), (5, .int v5_7), (1, .long v1_7), (0, .ref h0)]) hx hb dX6_singleCells_27 rfl hl (by decide) rfl (fun ls hl => ?_)
    refine lv_lload_n hx hb dX6_singleCells_28 rfl (lv_at hl 3 rfl) ?_
    refine lv_lload hx hb dX6_singleCells_29 (lv_at hl 1 rfl) ?_
    refine lv_lor hx hb dX6_singleCells_31 ?_
    refine lv_topl (fun n_8 en_8 => ?_)
    clear en_8
    refine lv_lstore_n (lv' := [(1, .long n_8), (3, .long n_7), (6, .long r_5), (5, .int v5_7), (0, .ref h0)]) hx hb dX6_singleCells_32 rfl hl (by decide) rfl (fun ls hl => ?_)
    obtain ⟨n_9, en_9⟩ : ∃ y : Int32, y = v5_7 + 1 := ⟨_, rfl⟩
    have tn_9 : n_9.toInt = v5_7.toInt + 1 := pp_add en_9 rfl rfl (by omega) (by omega)
    refine lv_iinc (v := n_9) (lv' := [(5, .int n_9), (1, .long n_8), (3, .long n_7), (6, .long r_5), (0, .ref h0)]) hx hb dX6_singleCells_33 hl (k := 3) rfl (by rw [en_9]; rfl) (by decide) rfl (fun ls hl => ?_)
    clear en_9
    refine lv_goto (tgt := 7) hx hb dX6_singleCells_36 (by decide) ?_
    exact ihk_1 (n_9, n_7, n_8) _ _ _ (by show (4 - n_9.toInt).toNat < k_1; omega) ⟨(by first | omega | decide | (simp only [fa_lt, fa_le, fa_eq, and_true, true_and, and_false, false_and, not_true_eq_false, not_false_eq_true, li_0, li_1, li_2, li_3, li_4, li_5, li_6, li_7, li_8, li_9, li_10, li_12, li_15, li_16, li_20, li_30, li_34, li_38, li_40, li_63, li_64, li_65, li_78, li_120, li_1000, li_4000, li_10000, li_11077, li_255, li_65535, li_m1, li_m2, li_m1000000001, li_m1000000002, li_m1000000003, li_m1000000004, li_m1000000005, li_m1000000006, li_m1000000007, or_true, true_or, or_false, false_or, implies_true, true_implies, false_implies] <;> omega)), (by first | omega | decide | (simp only [fa_lt, fa_le, fa_eq, and_true, true_and, and_false, false_and, not_true_eq_false, not_false_eq_true, li_0, li_1, li_2, li_3, li_4, li_5, li_6, li_7, li_8, li_9, li_10, li_12, li_15, li_16, li_20, li_30, li_34, li_38, li_40, li_63, li_64, li_65, li_78, li_120, li_1000, li_4000, li_10000, li_11077, li_255, li_65535, li_m1, li_m2, li_m1000000001, li_m1000000002, li_m1000000003, li_m1000000004, li_m1000000005, li_m1000000006, li_m1000000007, or_true, true_or, or_false, false_or, implies_true, true_implies, false_implies] <;> omega)), rfl, rfl, lv_sub hl [0, 2, 1, 4] rfl⟩

def w_s_offBetween : List Cond := .code yX6_offBetween cX6_offBetween 3 (some .int) :: (([.fieldLink RX6 34 "LampShapes$Stage" "pictures" "[J", .methodLink RX6 94 yX1_cellsOff, .static yX1_cellsOff, .initialized RX1, .code yX1_cellsOff cX1_cellsOff 4 (some .int), .methodLink RX1 15 yJ13_bitCount_95d88, .static yJ13_bitCount_95d88, .initialized RJ13, .code yJ13_bitCount_95d88 cJ13_bitCount_95d88 2 (some .int), .constantLong RJ13 314 (6148914691236517205), .constantLong RJ13 316 (3689348814741910323), .constantLong RJ13 318 (1085102592571150095)] : List Cond) ++ wsX60)
set_option maxRecDepth 20000 in
theorem g_s_offBetween_l_cellsOff_94 : GoodIn w_s_offBetween (va_wsS RX6 94 yX1_cellsOff w_l_cellsOff) := goodIn_r _ [2, 3, 4, 5, 6, 7, 8, 9, 10, 11, 12] rfl (by decide +kernel)
set_option maxHeartbeats 4000000 in
set_option maxRecDepth 100000 in
theorem s_offBetween (l : Launch) (dC : Nat → ClassId) (dI : Nat → Nat → Nat) (ad : Nat → Nat) (h0 : Nat) (k : Int32) (j : Int32) (w0 : Value) (w1 : Value) (w2 : Value) (w3 : Value) (w4 : Value) (w5 : Value) (w6 : Value) (q5 : Nat) (w8 : Value) (c5 : ClassId) (f5 : Nat → Int64) (hk : 0 ≤ k.toInt ∧ k.toInt ≤ 6) (hj : 0 ≤ j.toInt ∧ j.toInt ≤ 6) : Met l yX6_offBetween w_s_offBetween ({ frames := 2, cells := 0, slots := 0, locals := 44 } : Room) (va_Pc [.ref h0, .int k, .int j] (preS dC dI ad [(c5, .long)] [(h0, .inr (4, [w0, w1, w2, w3, w4, w5, w6, .ref q5, w8])), (q5, .inl (c5, 7, .inr (.inl f5)))])) (vp_Si (fun r => True)) 0 0 (fun _ => False) := by
  refine Met.ofW (cc := cX6_offBetween) (maxL := 3) (ret := (some .int)) (by decide) rfl ?_
  intro p e s m args below meth c s₁ B hml hv
  obtain ⟨rfl, hP, hK, hev⟩ := hv
  have hx := B.exec
  have hb := B.bytes
  have hr := B.returns
  have hts := atoms_spec (ws := w_s_offBetween) B.pre
  have hown : s.vm.findClass RX6 = some m.cls := findClass_of_methodNamed B.named
  have hlocks := B.notSynchronized
  have inX6 : ∀ w ∈ wsX60, w ∈ w_s_offBetween := fun w h => List.mem_cons_of_mem _ (List.mem_append_right _ h)
  have hP : va_P (dC, dI) vwCl [(h0, .inr (4, [w0, w1, w2, w3, w4, w5, w6, .ref q5, w8])), (q5, .inl (c5, 7, .inr (.inl f5)))] s.heap := hP
  have hl := lv_entry ([.ref h0, .int k, .int j]) (n := 3) (Nat.le_of_ble_eq_true rfl)
  rw [lg_entry_eq]
  generalize (lg_sl ([.ref h0, .int k, .int j]) ++ List.replicate (3 - (lg_sl ([.ref h0, .int k, .int j])).length) Slot.unset).toArray = ls at hl ⊢
  have hl : lv_has ls 3 [(0, .ref h0), (1, .int k), (2, .int j)] := hl
  refine lv_aload_n hx hb dX6_offBetween_0 rfl (lv_at hl 0 rfl) ?_
  refine va_get (D := (dC, dI)) (ci := 4) (v := .ref q5) (C := RX6) (T := TX6) (N := 9) hx hb hts inX6 hown hK hP 0 rfl rfl 7 (by decide) (hts _ (List.mem_of_getElem? (i := 1) rfl)) (fun _ h9 => h9) rfl dX6_offBetween_1 ?_
  refine lv_iload_n hx hb dX6_offBetween_4 rfl (lv_at hl 1 rfl) ?_
  refine va_lald hx hb hK hP 1 0 rfl rfl (vp_in_iff.mpr ⟨by omega, by omega⟩) dX6_offBetween_5 ?_
  refine lv_topl (fun n_1 en_1 => ?_)
  clear en_1
  refine lv_aload_n hx hb dX6_offBetween_6 rfl (lv_at hl 0 rfl) ?_
  refine va_get (D := (dC, dI)) (ci := 4) (v := .ref q5) (C := RX6) (T := TX6) (N := 9) hx hb hts inX6 hown hK hP 0 rfl rfl 7 (by decide) (hts _ (List.mem_of_getElem? (i := 1) rfl)) (fun _ h9 => h9) rfl dX6_offBetween_7 ?_
  refine lv_iload_n hx hb dX6_offBetween_10 rfl (lv_at hl 2 rfl) ?_
  refine va_lald hx hb hK hP 1 0 rfl rfl (vp_in_iff.mpr ⟨by omega, by omega⟩) dX6_offBetween_11 ?_
  refine lv_topl (fun n_2 en_2 => ?_)
  clear en_2
  have hPc := hP.sub (ws' := []) [] rfl
  have hKc := hK.sub (tys' := []) [] rfl
  refine vp_callSi (W.runS (As := [.long n_1, .long n_2]) (rest := []) ⟨hx, hb, hml, hown, hts⟩ (l_cellsOff l dC dI ad n_1 n_2 ) (va_cwS 2 hts g_s_offBetween_l_cellsOff_94 rfl rfl rfl (by decide +kernel) ⟨(Nat.le_of_ble_eq_true rfl), (Nat.le_of_ble_eq_true rfl)⟩) ⟨preS_blind, fun U hU hW => ⟨rfl, preS_at hU hW hPc hKc hev⟩⟩ rfl rfl hl.1 rfl (lv_room (Nat.le_of_ble_eq_true rfl)) dX6_offBetween_12 ⟨(Nat.le_of_ble_eq_true rfl), (Nat.le_of_ble_eq_true rfl)⟩) (fun r_3 hw => ?_)
  exact W.iret (v := r_3) hx hb hr (fun t ht hW => ⟨r_3, rfl, trivial, ht⟩) (fun _ h => absurd h List.not_mem_nil) dX6_offBetween_15

def w_s_changesBetween : List Cond := .code yX6_changesBetween cX6_changesBetween 3 (some .int) :: (([.methodLink RX6 98 yX6_offBetween, .instanceMethod yX6_offBetween, .selects RX6 yX6_offBetween yX6_offBetween, .initialized RX6, .code yX6_offBetween cX6_offBetween 3 (some .int), .fieldLink RX6 34 "LampShapes$Stage" "pictures" "[J", .methodLink RX6 94 yX1_cellsOff, .static yX1_cellsOff, .initialized RX1, .code yX1_cellsOff cX1_cellsOff 4 (some .int), .methodLink RX1 15 yJ13_bitCount_95d88, .static yJ13_bitCount_95d88, .initialized RJ13, .code yJ13_bitCount_95d88 cJ13_bitCount_95d88 2 (some .int), .constantLong RJ13 314 (6148914691236517205), .constantLong RJ13 316 (3689348814741910323), .constantLong RJ13 318 (1085102592571150095)] : List Cond) ++ wsX60)
set_option maxRecDepth 20000 in
theorem g_s_changesBetween_s_offBetween_98 : GoodIn w_s_changesBetween (wsV RX6 98 RX6 yX6_offBetween w_s_offBetween) := goodIn_r _ [1, 2, 3, 4, 5, 6, 7, 8, 9, 10, 11, 12, 13, 14, 15, 16, 17, 18, 19, 20, 21, 22, 23, 24, 25, 26] rfl (by decide +kernel)
set_option maxHeartbeats 4000000 in
set_option maxRecDepth 100000 in
theorem s_changesBetween (l : Launch) (dC : Nat → ClassId) (dI : Nat → Nat → Nat) (ad : Nat → Nat) (h0 : Nat) (k : Int32) (j : Int32) (w0 : Value) (w1 : Value) (w2 : Value) (w3 : Value) (w4 : Value) (w5 : Value) (w6 : Value) (q5 : Nat) (w8 : Value) (c5 : ClassId) (f5 : Nat → Int64) (hk : 0 ≤ k.toInt ∧ k.toInt ≤ 6) (hj : 0 ≤ j.toInt ∧ j.toInt ≤ 6) : Met l yX6_changesBetween w_s_changesBetween ({ frames := 3, cells := 0, slots := 0, locals := 66 } : Room) (va_Pc [.ref h0, .int k, .int j] (preS dC dI ad [(c5, .long)] [(h0, .inr (4, [w0, w1, w2, w3, w4, w5, w6, .ref q5, w8])), (q5, .inl (c5, 7, .inr (.inl f5)))])) (vp_Si (fun r => True)) 0 0 (fun _ => False) := by
  refine Met.ofW (cc := cX6_changesBetween) (maxL := 3) (ret := (some .int)) (by decide) rfl ?_
  intro p e s m args below meth c s₁ B hml hv
  obtain ⟨rfl, hP, hK, hev⟩ := hv
  have hx := B.exec
  have hb := B.bytes
  have hr := B.returns
  have hts := atoms_spec (ws := w_s_changesBetween) B.pre
  have hown : s.vm.findClass RX6 = some m.cls := findClass_of_methodNamed B.named
  have hlocks := B.notSynchronized
  have inX6 : ∀ w ∈ wsX60, w ∈ w_s_changesBetween := fun w h => List.mem_cons_of_mem _ (List.mem_append_right _ h)
  have hP : va_P (dC, dI) vwCl [(h0, .inr (4, [w0, w1, w2, w3, w4, w5, w6, .ref q5, w8])), (q5, .inl (c5, 7, .inr (.inl f5)))] s.heap := hP
  have hl := lv_entry ([.ref h0, .int k, .int j]) (n := 3) (Nat.le_of_ble_eq_true rfl)
  rw [lg_entry_eq]
  generalize (lg_sl ([.ref h0, .int k, .int j]) ++ List.replicate (3 - (lg_sl ([.ref h0, .int k, .int j])).length) Slot.unset).toArray = ls at hl ⊢
  have hl : lv_has ls 3 [(0, .ref h0), (1, .int k), (2, .int j)] := hl
  refine lv_aload_n hx hb dX6_changesBetween_0 rfl (lv_at hl 0 rfl) ?_
  refine lv_iload_n hx hb dX6_changesBetween_1 rfl (lv_at hl 1 rfl) ?_
  refine lv_iload_n hx hb dX6_changesBetween_2 rfl (lv_at hl 2 rfl) ?_
  have hPc := hP.sub (ws' := [(h0, .inr (4, [w0, w1, w2, w3, w4, w5, w6, .ref q5, w8])), (q5, .inl (c5, 7, .inr (.inl f5)))]) [0, 1] rfl
  have hKc := hK.sub (tys' := [(c5, .long)]) [0] rfl
  refine vp_callSi (W.runV (As := [.int k, .int j]) (rest := []) ⟨hx, hb, hml, hown, hts⟩ (s_offBetween l dC dI ad h0 k j w0 w1 w2 w3 w4 w5 w6 q5 w8 c5 f5 hk hj) (cwV 2 hts g_s_changesBetween_s_offBetween_98 rfl rfl rfl (by decide +kernel) ⟨(Nat.le_of_ble_eq_true rfl), (Nat.le_of_ble_eq_true rfl)⟩) ⟨preS_blind, va_recv hKc hPc (ci := 4) (q0 := 0) rfl rfl, fun U hU hW => ⟨rfl, preS_at hU hW hPc hKc hev⟩⟩ rfl rfl hl.1 rfl (lv_room (Nat.le_of_ble_eq_true rfl)) dX6_changesBetween_3 ⟨(Nat.le_of_ble_eq_true rfl), (Nat.le_of_ble_eq_true rfl)⟩) (fun r_1 hw => ?_)
  refine lv_iconst (v := 3) hx hb dX6_changesBetween_6 (by decide) ?_
  refine lv_iadd hx hb dX6_changesBetween_7 ?_
  refine lv_topi (fun n_2 en_2 => ?_)
  clear en_2
  refine lv_iconst (v := 4) hx hb dX6_changesBetween_8 (by decide) ?_
  refine lv_idiv hx hb dX6_changesBetween_9 (by decide) ?_
  refine lv_topi (fun n_3 en_3 => ?_)
  clear en_3
  exact W.iret (v := n_3) hx hb hr (fun t ht hW => ⟨n_3, rfl, trivial, ht⟩) (fun _ h => absurd h List.not_mem_nil) dX6_changesBetween_10

def w_s_takeAll : List Cond := .code yX6_takeAll cX6_takeAll 2 none :: (([.fieldLink RX6 9 "LampShapes$Stage" "shapes" "I", .fieldLink RX6 15 "LampShapes$Stage" "kinds" "[I", .methodLink RX6 41 arraycopyName, .native arraycopyName, .static arraycopyName, .initialized "java/lang/System", .fieldLink RX6 19 "LampShapes$Stage" "points" "[I", .fieldLink RX6 22 "LampShapes$Stage" "tornShapes" "I", .fieldLink RX6 25 "LampShapes$Stage" "heldShapes" "[I", .fieldLink RX6 28 "LampShapes$Stage" "heldPlacings" "[I", .fieldLink RX6 31 "LampShapes$Stage" "scenes" "I", .fieldLink RX6 34 "LampShapes$Stage" "pictures" "[J", .fieldLink RX6 38 "LampShapes$Stage" "allowed" "I"] : List Cond) ++ wsX60)
set_option maxHeartbeats 4000000 in
set_option maxRecDepth 100000 in
theorem s_takeAll (l : Launch) (dC : Nat → ClassId) (dI : Nat → Nat → Nat) (ad : Nat → Nat) (h0 : Nat) (h1 : Nat) (sh : Int32) (q1 : Nat) (q2 : Nat) (tn : Int32) (q3 : Nat) (q4 : Nat) (sc : Int32) (q5 : Nat) (al : Int32) (c1 : ClassId) (f1 : Nat → Int32) (c2 : ClassId) (f2 : Nat → Int32) (c3 : ClassId) (f3 : Nat → Int32) (c4 : ClassId) (f4 : Nat → Int32) (c5 : ClassId) (f5 : Nat → Int64) (sho : Int32) (q1o : Nat) (q2o : Nat) (tno : Int32) (q3o : Nat) (q4o : Nat) (sco : Int32) (q5o : Nat) (alo : Int32) (c1o : ClassId) (f1o : Nat → Int32) (c2o : ClassId) (f2o : Nat → Int32) (c3o : ClassId) (f3o : Nat → Int32) (c4o : ClassId) (f4o : Nat → Int32) (c5o : ClassId) (f5o : Nat → Int64) (sz : Nat) : Met l yX6_takeAll w_s_takeAll ({ frames := 1, cells := 0, slots := 0, locals := 40 } : Room) (va_Pc [.ref h0, .ref h1] (preM dC dI ad [(c1, .int), (c2, .int), (c3, .int), (c4, .int), (c5, .long), (c1o, .int), (c2o, .int), (c3o, .int), (c4o, .int), (c5o, .long)] [(h0, .inr (4, [.int sh, .ref q1, .ref q2, .int tn, .ref q3, .ref q4, .int sc, .ref q5, .int al])), (q1, .inl (c1, 9, .inl f1)), (q2, .inl (c2, 9, .inl f2)), (q3, .inl (c3, 4, .inl f3)), (q4, .inl (c4, 4, .inl f4)), (q5, .inl (c5, 7, .inr (.inl f5))), (h1, .inr (4, [.int sho, .ref q1o, .ref q2o, .int tno, .ref q3o, .ref q4o, .int sco, .ref q5o, .int alo])), (q1o, .inl (c1o, 9, .inl f1o)), (q2o, .inl (c2o, 9, .inl f2o)), (q3o, .inl (c3o, 4, .inl f3o)), (q4o, .inl (c4o, 4, .inl f4o)), (q5o, .inl (c5o, 7, .inr (.inl f5o)))] sz)) (va_Qv (fun (_ : Unit) => True) (fun _ t => ∃ (g1 : Nat → Int32), ∃ (g2 : Nat → Int32), ∃ (g3 : Nat → Int32), ∃ (g4 : Nat → Int32), ∃ (g5 : Nat → Int64), va_P (dC, dI) vwCl [(h0, .inr (4, [.int sho, .ref q1, .ref q2, .int tno, .ref q3, .ref q4, .int sco, .ref q5, .int alo])), (q1, .inl (c1, 9, .inl g1)), (q2, .inl (c2, 9, .inl g2)), (q3, .inl (c3, 4, .inl g3)), (q4, .inl (c4, 4, .inl g4)), (q5, .inl (c5, 7, .inr (.inl g5))), (h1, .inr (4, [.int sho, .ref q1o, .ref q2o, .int tno, .ref q3o, .ref q4o, .int sco, .ref q5o, .int alo])), (q1o, .inl (c1o, 9, .inl f1o)), (q2o, .inl (c2o, 9, .inl f2o)), (q3o, .inl (c3o, 4, .inl f3o)), (q4o, .inl (c4o, 4, .inl f4o)), (q5o, .inl (c5o, 7, .inr (.inl f5o)))] t.heap ∧ va_K (dC, dI) vwCl [(c1, .int), (c2, .int), (c3, .int), (c4, .int), (c5, .long), (c1o, .int), (c2o, .int), (c3o, .int), (c4o, .int), (c5o, .long)] t ∧ va_D (va_A [(h0, .inr (4, [.int sh, .ref q1, .ref q2, .int tn, .ref q3, .ref q4, .int sc, .ref q5, .int al])), (q1, .inl (c1, 9, .inl f1)), (q2, .inl (c2, 9, .inl f2)), (q3, .inl (c3, 4, .inl f3)), (q4, .inl (c4, 4, .inl f4)), (q5, .inl (c5, 7, .inr (.inl f5))), (h1, .inr (4, [.int sho, .ref q1o, .ref q2o, .int tno, .ref q3o, .ref q4o, .int sco, .ref q5o, .int alo])), (q1o, .inl (c1o, 9, .inl f1o)), (q2o, .inl (c2o, 9, .inl f2o)), (q3o, .inl (c3o, 4, .inl f3o)), (q4o, .inl (c4o, 4, .inl f4o)), (q5o, .inl (c5o, 7, .inr (.inl f5o)))] sz) [(h0, .inr (4, [.int sho, .ref q1, .ref q2, .int tno, .ref q3, .ref q4, .int sco, .ref q5, .int alo])), (q1, .inl (c1, 9, .inl g1)), (q2, .inl (c2, 9, .inl g2)), (q3, .inl (c3, 4, .inl g3)), (q4, .inl (c4, 4, .inl g4)), (q5, .inl (c5, 7, .inr (.inl g5))), (h1, .inr (4, [.int sho, .ref q1o, .ref q2o, .int tno, .ref q3o, .ref q4o, .int sco, .ref q5o, .int alo])), (q1o, .inl (c1o, 9, .inl f1o)), (q2o, .inl (c2o, 9, .inl f2o)), (q3o, .inl (c3o, 4, .inl f3o)), (q4o, .inl (c4o, 4, .inl f4o)), (q5o, .inl (c5o, 7, .inr (.inl f5o)))]) (va_A [(h0, .inr (4, [.int sh, .ref q1, .ref q2, .int tn, .ref q3, .ref q4, .int sc, .ref q5, .int al])), (q1, .inl (c1, 9, .inl f1)), (q2, .inl (c2, 9, .inl f2)), (q3, .inl (c3, 4, .inl f3)), (q4, .inl (c4, 4, .inl f4)), (q5, .inl (c5, 7, .inr (.inl f5))), (h1, .inr (4, [.int sho, .ref q1o, .ref q2o, .int tno, .ref q3o, .ref q4o, .int sco, .ref q5o, .int alo])), (q1o, .inl (c1o, 9, .inl f1o)), (q2o, .inl (c2o, 9, .inl f2o)), (q3o, .inl (c3o, 4, .inl f3o)), (q4o, .inl (c4o, 4, .inl f4o)), (q5o, .inl (c5o, 7, .inr (.inl f5o)))] sz)) 0 0 (va_A [(h0, .inr (4, [.int sh, .ref q1, .ref q2, .int tn, .ref q3, .ref q4, .int sc, .ref q5, .int al])), (q1, .inl (c1, 9, .inl f1)), (q2, .inl (c2, 9, .inl f2)), (q3, .inl (c3, 4, .inl f3)), (q4, .inl (c4, 4, .inl f4)), (q5, .inl (c5, 7, .inr (.inl f5))), (h1, .inr (4, [.int sho, .ref q1o, .ref q2o, .int tno, .ref q3o, .ref q4o, .int sco, .ref q5o, .int alo])), (q1o, .inl (c1o, 9, .inl f1o)), (q2o, .inl (c2o, 9, .inl f2o)), (q3o, .inl (c3o, 4, .inl f3o)), (q4o, .inl (c4o, 4, .inl f4o)), (q5o, .inl (c5o, 7, .inr (.inl f5o)))] sz) := by
  refine Met.ofW (cc := cX6_takeAll) (maxL := 2) (ret := none) (by decide) rfl ?_
  intro p e s m args below meth c s₁ B hml hv
  obtain ⟨rfl, hsz, hP, hK, hD0, hev⟩ := hv
  have hx := B.exec
  have hb := B.bytes
  have hr := B.returns
  have hts := atoms_spec (ws := w_s_takeAll) B.pre
  have hown : s.vm.findClass RX6 = some m.cls := findClass_of_methodNamed B.named
  have hlocks := B.notSynchronized
  have inX6 : ∀ w ∈ wsX60, w ∈ w_s_takeAll := fun w h => List.mem_cons_of_mem _ (List.mem_append_right _ h)
  subst hsz
  have hD := hD0.self (sz := s.heap.size)
  generalize hAe : va_A [(h0, .inr (4, [.int sh, .ref q1, .ref q2, .int tn, .ref q3, .ref q4, .int sc, .ref q5, .int al])), (q1, .inl (c1, 9, .inl f1)), (q2, .inl (c2, 9, .inl f2)), (q3, .inl (c3, 4, .inl f3)), (q4, .inl (c4, 4, .inl f4)), (q5, .inl (c5, 7, .inr (.inl f5))), (h1, .inr (4, [.int sho, .ref q1o, .ref q2o, .int tno, .ref q3o, .ref q4o, .int sco, .ref q5o, .int alo])), (q1o, .inl (c1o, 9, .inl f1o)), (q2o, .inl (c2o, 9, .inl f2o)), (q3o, .inl (c3o, 4, .inl f3o)), (q4o, .inl (c4o, 4, .inl f4o)), (q5o, .inl (c5o, 7, .inr (.inl f5o)))] s.heap.size = A at hD ⊢
  have hA : ∀ q : Nat, s.heap.size ≤ q → A q := fun q h => by rw [← hAe]; exact Or.inr h
  have hS : va_S A s.heap s.heap [] := va_S.rf
  have hP : va_P (dC, dI) vwCl [(h0, .inr (4, [.int sh, .ref q1, .ref q2, .int tn, .ref q3, .ref q4, .int sc, .ref q5, .int al])), (q1, .inl (c1, 9, .inl f1)), (q2, .inl (c2, 9, .inl f2)), (q3, .inl (c3, 4, .inl f3)), (q4, .inl (c4, 4, .inl f4)), (q5, .inl (c5, 7, .inr (.inl f5))), (h1, .inr (4, [.int sho, .ref q1o, .ref q2o, .int tno, .ref q3o, .ref q4o, .int sco, .ref q5o, .int alo])), (q1o, .inl (c1o, 9, .inl f1o)), (q2o, .inl (c2o, 9, .inl f2o)), (q3o, .inl (c3o, 4, .inl f3o)), (q4o, .inl (c4o, 4, .inl f4o)), (q5o, .inl (c5o, 7, .inr (.inl f5o)))] s.heap := hP
  have hl := lv_entry ([.ref h0, .ref h1]) (n := 2) (Nat.le_of_ble_eq_true rfl)
  rw [lg_entry_eq]
  generalize (lg_sl ([.ref h0, .ref h1]) ++ List.replicate (2 - (lg_sl ([.ref h0, .ref h1])).length) Slot.unset).toArray = ls at hl ⊢
  have hl : lv_has ls 2 [(0, .ref h0), (1, .ref h1)] := hl
  refine lv_aload_n hx hb dX6_takeAll_0 rfl (lv_at hl 0 rfl) ?_
  refine lv_aload_n hx hb dX6_takeAll_1 rfl (lv_at hl 1 rfl) ?_
  refine va_get (D := (dC, dI)) (ci := 4) (v := .int sho) (C := RX6) (T := TX6) (N := 9) hx hb hts inX6 hown hK hP 6 rfl rfl 0 (by decide) (hts _ (List.mem_of_getElem? (i := 1) rfl)) (fun _ h9 => h9) rfl dX6_takeAll_2 ?_
  refine va_put (D := (dC, dI)) (ci := 4) (v := .int sho) (ty := .int) (C := RX6) (T := TX6) (N := 9) hx hb hts inX6 tyX6 tyX6_ok nmX6 hown hK hP hD hS 0 rfl rfl 0 (by decide) (hts _ (List.mem_of_getElem? (i := 1) rfl)) (fun _ h9 => h9) rfl (by decide +kernel) rfl rfl (Nat.le_of_ble_eq_true rfl) dX6_takeAll_5 (fun H locs hP hD hS => ?_)
  have hP : va_P (dC, dI) vwCl [(h0, .inr (4, [.int sho, .ref q1, .ref q2, .int tn, .ref q3, .ref q4, .int sc, .ref q5, .int al])), (q1, .inl (c1, 9, .inl f1)), (q2, .inl (c2, 9, .inl f2)), (q3, .inl (c3, 4, .inl f3)), (q4, .inl (c4, 4, .inl f4)), (q5, .inl (c5, 7, .inr (.inl f5))), (h1, .inr (4, [.int sho, .ref q1o, .ref q2o, .int tno, .ref q3o, .ref q4o, .int sco, .ref q5o, .int alo])), (q1o, .inl (c1o, 9, .inl f1o)), (q2o, .inl (c2o, 9, .inl f2o)), (q3o, .inl (c3o, 4, .inl f3o)), (q4o, .inl (c4o, 4, .inl f4o)), (q5o, .inl (c5o, 7, .inr (.inl f5o)))] H := hP
  have hD : va_D A [(h0, .inr (4, [.int sho, .ref q1, .ref q2, .int tn, .ref q3, .ref q4, .int sc, .ref q5, .int al])), (q1, .inl (c1, 9, .inl f1)), (q2, .inl (c2, 9, .inl f2)), (q3, .inl (c3, 4, .inl f3)), (q4, .inl (c4, 4, .inl f4)), (q5, .inl (c5, 7, .inr (.inl f5))), (h1, .inr (4, [.int sho, .ref q1o, .ref q2o, .int tno, .ref q3o, .ref q4o, .int sco, .ref q5o, .int alo])), (q1o, .inl (c1o, 9, .inl f1o)), (q2o, .inl (c2o, 9, .inl f2o)), (q3o, .inl (c3o, 4, .inl f3o)), (q4o, .inl (c4o, 4, .inl f4o)), (q5o, .inl (c5o, 7, .inr (.inl f5o)))] := hD
  refine lv_aload_n hx hb dX6_takeAll_8 rfl (lv_at hl 1 rfl) ?_
  refine va_get (D := (dC, dI)) (ci := 4) (v := .ref q1o) (C := RX6) (T := TX6) (N := 9) hx hb hts inX6 hown hK hP 6 rfl rfl 1 (by decide) (hts _ (List.mem_of_getElem? (i := 2) rfl)) (fun _ h9 => h9) rfl dX6_takeAll_9 ?_
  refine lv_iconst (v := 0) hx hb dX6_takeAll_12 (by decide) ?_
  refine lv_aload_n hx hb dX6_takeAll_13 rfl (lv_at hl 0 rfl) ?_
  refine va_get (D := (dC, dI)) (ci := 4) (v := .ref q1) (C := RX6) (T := TX6) (N := 9) hx hb hts inX6 hown hK hP 0 rfl rfl 1 (by decide) (hts _ (List.mem_of_getElem? (i := 2) rfl)) (fun _ h9 => h9) rfl dX6_takeAll_14 ?_
  refine lv_iconst (v := 0) hx hb dX6_takeAll_17 (by decide) ?_
  refine lv_bipush (v := 9) hx hb dX6_takeAll_18 (by decide) ?_
  refine va_copyi (ty := .int) hx hb (by rw [hml]; exact hl.1.symm) hown (hts _ (List.mem_of_getElem? (i := 3) rfl)) (hts _ (List.mem_of_getElem? (i := 4) rfl)) (hts _ (List.mem_of_getElem? (i := 5) rfl)) (hts _ (List.mem_of_getElem? (i := 6) rfl)) hK hP hD hS 7 1 5 0 rfl rfl rfl rfl rfl (by decide) (by decide) (by decide) (by decide) (by decide) (fun _ _ => rfl) (Nat.le_of_ble_eq_true rfl) (Nat.le_of_ble_eq_true rfl) dX6_takeAll_20 (fun H locs hP hD hS => ?_)
  generalize va_cpy f1o f1 (0 : Int32).toNatClampNeg (0 : Int32).toNatClampNeg (9 : Int32).toNatClampNeg = f_1 at hP hD
  have hP : va_P (dC, dI) vwCl [(h0, .inr (4, [.int sho, .ref q1, .ref q2, .int tn, .ref q3, .ref q4, .int sc, .ref q5, .int al])), (q1, .inl (c1, 9, .inl f_1)), (q2, .inl (c2, 9, .inl f2)), (q3, .inl (c3, 4, .inl f3)), (q4, .inl (c4, 4, .inl f4)), (q5, .inl (c5, 7, .inr (.inl f5))), (h1, .inr (4, [.int sho, .ref q1o, .ref q2o, .int tno, .ref q3o, .ref q4o, .int sco, .ref q5o, .int alo])), (q1o, .inl (c1o, 9, .inl f1o)), (q2o, .inl (c2o, 9, .inl f2o)), (q3o, .inl (c3o, 4, .inl f3o)), (q4o, .inl (c4o, 4, .inl f4o)), (q5o, .inl (c5o, 7, .inr (.inl f5o)))] H := hP
  have hD : va_D A [(h0, .inr (4, [.int sho, .ref q1, .ref q2, .int tn, .ref q3, .ref q4, .int sc, .ref q5, .int al])), (q1, .inl (c1, 9, .inl f_1)), (q2, .inl (c2, 9, .inl f2)), (q3, .inl (c3, 4, .inl f3)), (q4, .inl (c4, 4, .inl f4)), (q5, .inl (c5, 7, .inr (.inl f5))), (h1, .inr (4, [.int sho, .ref q1o, .ref q2o, .int tno, .ref q3o, .ref q4o, .int sco, .ref q5o, .int alo])), (q1o, .inl (c1o, 9, .inl f1o)), (q2o, .inl (c2o, 9, .inl f2o)), (q3o, .inl (c3o, 4, .inl f3o)), (q4o, .inl (c4o, 4, .inl f4o)), (q5o, .inl (c5o, 7, .inr (.inl f5o)))] := hD
  refine lv_aload_n hx hb dX6_takeAll_23 rfl (lv_at hl 1 rfl) ?_
  refine va_get (D := (dC, dI)) (ci := 4) (v := .ref q2o) (C := RX6) (T := TX6) (N := 9) hx hb hts inX6 hown hK hP 6 rfl rfl 2 (by decide) (hts _ (List.mem_of_getElem? (i := 7) rfl)) (fun _ h9 => h9) rfl dX6_takeAll_24 ?_
  refine lv_iconst (v := 0) hx hb dX6_takeAll_27 (by decide) ?_
  refine lv_aload_n hx hb dX6_takeAll_28 rfl (lv_at hl 0 rfl) ?_
  refine va_get (D := (dC, dI)) (ci := 4) (v := .ref q2) (C := RX6) (T := TX6) (N := 9) hx hb hts inX6 hown hK hP 0 rfl rfl 2 (by decide) (hts _ (List.mem_of_getElem? (i := 7) rfl)) (fun _ h9 => h9) rfl dX6_takeAll_29 ?_
  refine lv_iconst (v := 0) hx hb dX6_takeAll_32 (by decide) ?_
  refine lv_bipush (v := 9) hx hb dX6_takeAll_33 (by decide) ?_
  refine va_copyi (ty := .int) hx hb (by rw [hml]; exact hl.1.symm) hown (hts _ (List.mem_of_getElem? (i := 3) rfl)) (hts _ (List.mem_of_getElem? (i := 4) rfl)) (hts _ (List.mem_of_getElem? (i := 5) rfl)) (hts _ (List.mem_of_getElem? (i := 6) rfl)) hK hP hD hS 8 2 6 1 rfl rfl rfl rfl rfl (by decide) (by decide) (by decide) (by decide) (by decide) (fun _ _ => rfl) (Nat.le_of_ble_eq_true rfl) (Nat.le_of_ble_eq_true rfl) dX6_takeAll_35 (fun H locs hP hD hS => ?_)
  generalize va_cpy f2o f2 (0 : Int32).toNatClampNeg (0 : Int32).toNatClampNeg (9 : Int32).toNatClampNeg = f_2 at hP hD
  have hP : va_P (dC, dI) vwCl [(h0, .inr (4, [.int sho, .ref q1, .ref q2, .int tn, .ref q3, .ref q4, .int sc, .ref q5, .int al])), (q1, .inl (c1, 9, .inl f_1)), (q2, .inl (c2, 9, .inl f_2)), (q3, .inl (c3, 4, .inl f3)), (q4, .inl (c4, 4, .inl f4)), (q5, .inl (c5, 7, .inr (.inl f5))), (h1, .inr (4, [.int sho, .ref q1o, .ref q2o, .int tno, .ref q3o, .ref q4o, .int sco, .ref q5o, .int alo])), (q1o, .inl (c1o, 9, .inl f1o)), (q2o, .inl (c2o, 9, .inl f2o)), (q3o, .inl (c3o, 4, .inl f3o)), (q4o, .inl (c4o, 4, .inl f4o)), (q5o, .inl (c5o, 7, .inr (.inl f5o)))] H := hP
  have hD : va_D A [(h0, .inr (4, [.int sho, .ref q1, .ref q2, .int tn, .ref q3, .ref q4, .int sc, .ref q5, .int al])), (q1, .inl (c1, 9, .inl f_1)), (q2, .inl (c2, 9, .inl f_2)), (q3, .inl (c3, 4, .inl f3)), (q4, .inl (c4, 4, .inl f4)), (q5, .inl (c5, 7, .inr (.inl f5))), (h1, .inr (4, [.int sho, .ref q1o, .ref q2o, .int tno, .ref q3o, .ref q4o, .int sco, .ref q5o, .int alo])), (q1o, .inl (c1o, 9, .inl f1o)), (q2o, .inl (c2o, 9, .inl f2o)), (q3o, .inl (c3o, 4, .inl f3o)), (q4o, .inl (c4o, 4, .inl f4o)), (q5o, .inl (c5o, 7, .inr (.inl f5o)))] := hD
  refine lv_aload_n hx hb dX6_takeAll_38 rfl (lv_at hl 0 rfl) ?_
  refine lv_aload_n hx hb dX6_takeAll_39 rfl (lv_at hl 1 rfl) ?_
  refine va_get (D := (dC, dI)) (ci := 4) (v := .int tno) (C := RX6) (T := TX6) (N := 9) hx hb hts inX6 hown hK hP 6 rfl rfl 3 (by decide) (hts _ (List.mem_of_getElem? (i := 8) rfl)) (fun _ h9 => h9) rfl dX6_takeAll_40 ?_
  refine va_put (D := (dC, dI)) (ci := 4) (v := .int tno) (ty := .int) (C := RX6) (T := TX6) (N := 9) hx hb hts inX6 tyX6 tyX6_ok nmX6 hown hK hP hD hS 0 rfl rfl 3 (by decide) (hts _ (List.mem_of_getElem? (i := 8) rfl)) (fun _ h9 => h9) rfl (by decide +kernel) rfl rfl (Nat.le_of_ble_eq_true rfl) dX6_takeAll_43 (fun H locs hP hD hS => ?_)
  have hP : va_P (dC, dI) vwCl [(h0, .inr (4, [.int sho, .ref q1, .ref q2, .int tno, .ref q3, .ref q4, .int sc, .ref q5, .int al])), (q1, .inl (c1, 9, .inl f_1)), (q2, .inl (c2, 9, .inl f_2)), (q3, .inl (c3, 4, .inl f3)), (q4, .inl (c4, 4, .inl f4)), (q5, .inl (c5, 7, .inr (.inl f5))), (h1, .inr (4, [.int sho, .ref q1o, .ref q2o, .int tno, .ref q3o, .ref q4o, .int sco, .ref q5o, .int alo])), (q1o, .inl (c1o, 9, .inl f1o)), (q2o, .inl (c2o, 9, .inl f2o)), (q3o, .inl (c3o, 4, .inl f3o)), (q4o, .inl (c4o, 4, .inl f4o)), (q5o, .inl (c5o, 7, .inr (.inl f5o)))] H := hP
  have hD : va_D A [(h0, .inr (4, [.int sho, .ref q1, .ref q2, .int tno, .ref q3, .ref q4, .int sc, .ref q5, .int al])), (q1, .inl (c1, 9, .inl f_1)), (q2, .inl (c2, 9, .inl f_2)), (q3, .inl (c3, 4, .inl f3)), (q4, .inl (c4, 4, .inl f4)), (q5, .inl (c5, 7, .inr (.inl f5))), (h1, .inr (4, [.int sho, .ref q1o, .ref q2o, .int tno, .ref q3o, .ref q4o, .int sco, .ref q5o, .int alo])), (q1o, .inl (c1o, 9, .inl f1o)), (q2o, .inl (c2o, 9, .inl f2o)), (q3o, .inl (c3o, 4, .inl f3o)), (q4o, .inl (c4o, 4, .inl f4o)), (q5o, .inl (c5o, 7, .inr (.inl f5o)))] := hD
  refine lv_aload_n hx hb dX6_takeAll_46 rfl (lv_at hl 1 rfl) ?_
  refine va_get (D := (dC, dI)) (ci := 4) (v := .ref q3o) (C := RX6) (T := TX6) (N := 9) hx hb hts inX6 hown hK hP 6 rfl rfl 4 (by decide) (hts _ (List.mem_of_getElem? (i := 9) rfl)) (fun _ h9 => h9) rfl dX6_takeAll_47 ?_
  refine lv_iconst (v := 0) hx hb dX6_takeAll_50 (by decide) ?_
  refine lv_aload_n hx hb dX6_takeAll_51 rfl (lv_at hl 0 rfl) ?_
  refine va_get (D := (dC, dI)) (ci := 4) (v := .ref q3) (C := RX6) (T := TX6) (N := 9) hx hb hts inX6 hown hK hP 0 rfl rfl 4 (by decide) (hts _ (List.mem_of_getElem? (i := 9) rfl)) (fun _ h9 => h9) rfl dX6_takeAll_52 ?_
  refine lv_iconst (v := 0) hx hb dX6_takeAll_55 (by decide) ?_
  refine lv_iconst (v := 4) hx hb dX6_takeAll_56 (by decide) ?_
  refine va_copyi (ty := .int) hx hb (by rw [hml]; exact hl.1.symm) hown (hts _ (List.mem_of_getElem? (i := 3) rfl)) (hts _ (List.mem_of_getElem? (i := 4) rfl)) (hts _ (List.mem_of_getElem? (i := 5) rfl)) (hts _ (List.mem_of_getElem? (i := 6) rfl)) hK hP hD hS 9 3 7 2 rfl rfl rfl rfl rfl (by decide) (by decide) (by decide) (by decide) (by decide) (fun _ _ => rfl) (Nat.le_of_ble_eq_true rfl) (Nat.le_of_ble_eq_true rfl) dX6_takeAll_57 (fun H locs hP hD hS => ?_)
  generalize va_cpy f3o f3 (0 : Int32).toNatClampNeg (0 : Int32).toNatClampNeg (4 : Int32).toNatClampNeg = f_3 at hP hD
  have hP : va_P (dC, dI) vwCl [(h0, .inr (4, [.int sho, .ref q1, .ref q2, .int tno, .ref q3, .ref q4, .int sc, .ref q5, .int al])), (q1, .inl (c1, 9, .inl f_1)), (q2, .inl (c2, 9, .inl f_2)), (q3, .inl (c3, 4, .inl f_3)), (q4, .inl (c4, 4, .inl f4)), (q5, .inl (c5, 7, .inr (.inl f5))), (h1, .inr (4, [.int sho, .ref q1o, .ref q2o, .int tno, .ref q3o, .ref q4o, .int sco, .ref q5o, .int alo])), (q1o, .inl (c1o, 9, .inl f1o)), (q2o, .inl (c2o, 9, .inl f2o)), (q3o, .inl (c3o, 4, .inl f3o)), (q4o, .inl (c4o, 4, .inl f4o)), (q5o, .inl (c5o, 7, .inr (.inl f5o)))] H := hP
  have hD : va_D A [(h0, .inr (4, [.int sho, .ref q1, .ref q2, .int tno, .ref q3, .ref q4, .int sc, .ref q5, .int al])), (q1, .inl (c1, 9, .inl f_1)), (q2, .inl (c2, 9, .inl f_2)), (q3, .inl (c3, 4, .inl f_3)), (q4, .inl (c4, 4, .inl f4)), (q5, .inl (c5, 7, .inr (.inl f5))), (h1, .inr (4, [.int sho, .ref q1o, .ref q2o, .int tno, .ref q3o, .ref q4o, .int sco, .ref q5o, .int alo])), (q1o, .inl (c1o, 9, .inl f1o)), (q2o, .inl (c2o, 9, .inl f2o)), (q3o, .inl (c3o, 4, .inl f3o)), (q4o, .inl (c4o, 4, .inl f4o)), (q5o, .inl (c5o, 7, .inr (.inl f5o)))] := hD
  refine lv_aload_n hx hb dX6_takeAll_60 rfl (lv_at hl 1 rfl) ?_
  refine va_get (D := (dC, dI)) (ci := 4) (v := .ref q4o) (C := RX6) (T := TX6) (N := 9) hx hb hts inX6 hown hK hP 6 rfl rfl 5 (by decide) (hts _ (List.mem_of_getElem? (i := 10) rfl)) (fun _ h9 => h9) rfl dX6_takeAll_61 ?_
  refine lv_iconst (v := 0) hx hb dX6_takeAll_64 (by decide) ?_
  refine lv_aload_n hx hb dX6_takeAll_65 rfl (lv_at hl 0 rfl) ?_
  refine va_get (D := (dC, dI)) (ci := 4) (v := .ref q4) (C := RX6) (T := TX6) (N := 9) hx hb hts inX6 hown hK hP 0 rfl rfl 5 (by decide) (hts _ (List.mem_of_getElem? (i := 10) rfl)) (fun _ h9 => h9) rfl dX6_takeAll_66 ?_
  refine lv_iconst (v := 0) hx hb dX6_takeAll_69 (by decide) ?_
  refine lv_iconst (v := 4) hx hb dX6_takeAll_70 (by decide) ?_
  refine va_copyi (ty := .int) hx hb (by rw [hml]; exact hl.1.symm) hown (hts _ (List.mem_of_getElem? (i := 3) rfl)) (hts _ (List.mem_of_getElem? (i := 4) rfl)) (hts _ (List.mem_of_getElem? (i := 5) rfl)) (hts _ (List.mem_of_getElem? (i := 6) rfl)) hK hP hD hS 10 4 8 3 rfl rfl rfl rfl rfl (by decide) (by decide) (by decide) (by decide) (by decide) (fun _ _ => rfl) (Nat.le_of_ble_eq_true rfl) (Nat.le_of_ble_eq_true rfl) dX6_takeAll_71 (fun H locs hP hD hS => ?_)
  generalize va_cpy f4o f4 (0 : Int32).toNatClampNeg (0 : Int32).toNatClampNeg (4 : Int32).toNatClampNeg = f_4 at hP hD
  have hP : va_P (dC, dI) vwCl [(h0, .inr (4, [.int sho, .ref q1, .ref q2, .int tno, .ref q3, .ref q4, .int sc, .ref q5, .int al])), (q1, .inl (c1, 9, .inl f_1)), (q2, .inl (c2, 9, .inl f_2)), (q3, .inl (c3, 4, .inl f_3)), (q4, .inl (c4, 4, .inl f_4)), (q5, .inl (c5, 7, .inr (.inl f5))), (h1, .inr (4, [.int sho, .ref q1o, .ref q2o, .int tno, .ref q3o, .ref q4o, .int sco, .ref q5o, .int alo])), (q1o, .inl (c1o, 9, .inl f1o)), (q2o, .inl (c2o, 9, .inl f2o)), (q3o, .inl (c3o, 4, .inl f3o)), (q4o, .inl (c4o, 4, .inl f4o)), (q5o, .inl (c5o, 7, .inr (.inl f5o)))] H := hP
  have hD : va_D A [(h0, .inr (4, [.int sho, .ref q1, .ref q2, .int tno, .ref q3, .ref q4, .int sc, .ref q5, .int al])), (q1, .inl (c1, 9, .inl f_1)), (q2, .inl (c2, 9, .inl f_2)), (q3, .inl (c3, 4, .inl f_3)), (q4, .inl (c4, 4, .inl f_4)), (q5, .inl (c5, 7, .inr (.inl f5))), (h1, .inr (4, [.int sho, .ref q1o, .ref q2o, .int tno, .ref q3o, .ref q4o, .int sco, .ref q5o, .int alo])), (q1o, .inl (c1o, 9, .inl f1o)), (q2o, .inl (c2o, 9, .inl f2o)), (q3o, .inl (c3o, 4, .inl f3o)), (q4o, .inl (c4o, 4, .inl f4o)), (q5o, .inl (c5o, 7, .inr (.inl f5o)))] := hD
  refine lv_aload_n hx hb dX6_takeAll_74 rfl (lv_at hl 0 rfl) ?_
  refine lv_aload_n hx hb dX6_takeAll_75 rfl (lv_at hl 1 rfl) ?_
  refine va_get (D := (dC, dI)) (ci := 4) (v := .int sco) (C := RX6) (T := TX6) (N := 9) hx hb hts inX6 hown hK hP 6 rfl rfl 6 (by decide) (hts _ (List.mem_of_getElem? (i := 11) rfl)) (fun _ h9 => h9) rfl dX6_takeAll_76 ?_
  refine va_put (D := (dC, dI)) (ci := 4) (v := .int sco) (ty := .int) (C := RX6) (T := TX6) (N := 9) hx hb hts inX6 tyX6 tyX6_ok nmX6 hown hK hP hD hS 0 rfl rfl 6 (by decide) (hts _ (List.mem_of_getElem? (i := 11) rfl)) (fun _ h9 => h9) rfl (by decide +kernel) rfl rfl (Nat.le_of_ble_eq_true rfl) dX6_takeAll_79 (fun H locs hP hD hS => ?_)
  have hP : va_P (dC, dI) vwCl [(h0, .inr (4, [.int sho, .ref q1, .ref q2, .int tno, .ref q3, .ref q4, .int sco, .ref q5, .int al])), (q1, .inl (c1, 9, .inl f_1)), (q2, .inl (c2, 9, .inl f_2)), (q3, .inl (c3, 4, .inl f_3)), (q4, .inl (c4, 4, .inl f_4)), (q5, .inl (c5, 7, .inr (.inl f5))), (h1, .inr (4, [.int sho, .ref q1o, .ref q2o, .int tno, .ref q3o, .ref q4o, .int sco, .ref q5o, .int alo])), (q1o, .inl (c1o, 9, .inl f1o)), (q2o, .inl (c2o, 9, .inl f2o)), (q3o, .inl (c3o, 4, .inl f3o)), (q4o, .inl (c4o, 4, .inl f4o)), (q5o, .inl (c5o, 7, .inr (.inl f5o)))] H := hP
  have hD : va_D A [(h0, .inr (4, [.int sho, .ref q1, .ref q2, .int tno, .ref q3, .ref q4, .int sco, .ref q5, .int al])), (q1, .inl (c1, 9, .inl f_1)), (q2, .inl (c2, 9, .inl f_2)), (q3, .inl (c3, 4, .inl f_3)), (q4, .inl (c4, 4, .inl f_4)), (q5, .inl (c5, 7, .inr (.inl f5))), (h1, .inr (4, [.int sho, .ref q1o, .ref q2o, .int tno, .ref q3o, .ref q4o, .int sco, .ref q5o, .int alo])), (q1o, .inl (c1o, 9, .inl f1o)), (q2o, .inl (c2o, 9, .inl f2o)), (q3o, .inl (c3o, 4, .inl f3o)), (q4o, .inl (c4o, 4, .inl f4o)), (q5o, .inl (c5o, 7, .inr (.inl f5o)))] := hD
  refine lv_aload_n hx hb dX6_takeAll_82 rfl (lv_at hl 1 rfl) ?_
  refine va_get (D := (dC, dI)) (ci := 4) (v := .ref q5o) (C := RX6) (T := TX6) (N := 9) hx hb hts inX6 hown hK hP 6 rfl rfl 7 (by decide) (hts _ (List.mem_of_getElem? (i := 12) rfl)) (fun _ h9 => h9) rfl dX6_takeAll_83 ?_
  refine lv_iconst (v := 0) hx hb dX6_takeAll_86 (by decide) ?_
  refine lv_aload_n hx hb dX6_takeAll_87 rfl (lv_at hl 0 rfl) ?_
  refine va_get (D := (dC, dI)) (ci := 4) (v := .ref q5) (C := RX6) (T := TX6) (N := 9) hx hb hts inX6 hown hK hP 0 rfl rfl 7 (by decide) (hts _ (List.mem_of_getElem? (i := 12) rfl)) (fun _ h9 => h9) rfl dX6_takeAll_88 ?_
  refine lv_iconst (v := 0) hx hb dX6_takeAll_91 (by decide) ?_
  refine lv_bipush (v := 7) hx hb dX6_takeAll_92 (by decide) ?_
  refine va_copyl (ty := .long) hx hb (by rw [hml]; exact hl.1.symm) hown (hts _ (List.mem_of_getElem? (i := 3) rfl)) (hts _ (List.mem_of_getElem? (i := 4) rfl)) (hts _ (List.mem_of_getElem? (i := 5) rfl)) (hts _ (List.mem_of_getElem? (i := 6) rfl)) hK hP hD hS 11 5 9 4 rfl rfl rfl rfl rfl (by decide) (by decide) (by decide) (by decide) (by decide) (fun _ _ => rfl) (Nat.le_of_ble_eq_true rfl) (Nat.le_of_ble_eq_true rfl) dX6_takeAll_94 (fun H locs hP hD hS => ?_)
  generalize va_cpy f5o f5 (0 : Int32).toNatClampNeg (0 : Int32).toNatClampNeg (7 : Int32).toNatClampNeg = f_5 at hP hD
  have hP : va_P (dC, dI) vwCl [(h0, .inr (4, [.int sho, .ref q1, .ref q2, .int tno, .ref q3, .ref q4, .int sco, .ref q5, .int al])), (q1, .inl (c1, 9, .inl f_1)), (q2, .inl (c2, 9, .inl f_2)), (q3, .inl (c3, 4, .inl f_3)), (q4, .inl (c4, 4, .inl f_4)), (q5, .inl (c5, 7, .inr (.inl f_5))), (h1, .inr (4, [.int sho, .ref q1o, .ref q2o, .int tno, .ref q3o, .ref q4o, .int sco, .ref q5o, .int alo])), (q1o, .inl (c1o, 9, .inl f1o)), (q2o, .inl (c2o, 9, .inl f2o)), (q3o, .inl (c3o, 4, .inl f3o)), (q4o, .inl (c4o, 4, .inl f4o)), (q5o, .inl (c5o, 7, .inr (.inl f5o)))] H := hP
  have hD : va_D A [(h0, .inr (4, [.int sho, .ref q1, .ref q2, .int tno, .ref q3, .ref q4, .int sco, .ref q5, .int al])), (q1, .inl (c1, 9, .inl f_1)), (q2, .inl (c2, 9, .inl f_2)), (q3, .inl (c3, 4, .inl f_3)), (q4, .inl (c4, 4, .inl f_4)), (q5, .inl (c5, 7, .inr (.inl f_5))), (h1, .inr (4, [.int sho, .ref q1o, .ref q2o, .int tno, .ref q3o, .ref q4o, .int sco, .ref q5o, .int alo])), (q1o, .inl (c1o, 9, .inl f1o)), (q2o, .inl (c2o, 9, .inl f2o)), (q3o, .inl (c3o, 4, .inl f3o)), (q4o, .inl (c4o, 4, .inl f4o)), (q5o, .inl (c5o, 7, .inr (.inl f5o)))] := hD
  refine lv_aload_n hx hb dX6_takeAll_97 rfl (lv_at hl 0 rfl) ?_
  refine lv_aload_n hx hb dX6_takeAll_98 rfl (lv_at hl 1 rfl) ?_
  refine va_get (D := (dC, dI)) (ci := 4) (v := .int alo) (C := RX6) (T := TX6) (N := 9) hx hb hts inX6 hown hK hP 6 rfl rfl 8 (by decide) (hts _ (List.mem_of_getElem? (i := 13) rfl)) (fun _ h9 => h9) rfl dX6_takeAll_99 ?_
  refine va_put (D := (dC, dI)) (ci := 4) (v := .int alo) (ty := .int) (C := RX6) (T := TX6) (N := 9) hx hb hts inX6 tyX6 tyX6_ok nmX6 hown hK hP hD hS 0 rfl rfl 8 (by decide) (hts _ (List.mem_of_getElem? (i := 13) rfl)) (fun _ h9 => h9) rfl (by decide +kernel) rfl rfl (Nat.le_of_ble_eq_true rfl) dX6_takeAll_102 (fun H locs hP hD hS => ?_)
  have hP : va_P (dC, dI) vwCl [(h0, .inr (4, [.int sho, .ref q1, .ref q2, .int tno, .ref q3, .ref q4, .int sco, .ref q5, .int alo])), (q1, .inl (c1, 9, .inl f_1)), (q2, .inl (c2, 9, .inl f_2)), (q3, .inl (c3, 4, .inl f_3)), (q4, .inl (c4, 4, .inl f_4)), (q5, .inl (c5, 7, .inr (.inl f_5))), (h1, .inr (4, [.int sho, .ref q1o, .ref q2o, .int tno, .ref q3o, .ref q4o, .int sco, .ref q5o, .int alo])), (q1o, .inl (c1o, 9, .inl f1o)), (q2o, .inl (c2o, 9, .inl f2o)), (q3o, .inl (c3o, 4, .inl f3o)), (q4o, .inl (c4o, 4, .inl f4o)), (q5o, .inl (c5o, 7, .inr (.inl f5o)))] H := hP
  have hD : va_D A [(h0, .inr (4, [.int sho, .ref q1, .ref q2, .int tno, .ref q3, .ref q4, .int sco, .ref q5, .int alo])), (q1, .inl (c1, 9, .inl f_1)), (q2, .inl (c2, 9, .inl f_2)), (q3, .inl (c3, 4, .inl f_3)), (q4, .inl (c4, 4, .inl f_4)), (q5, .inl (c5, 7, .inr (.inl f_5))), (h1, .inr (4, [.int sho, .ref q1o, .ref q2o, .int tno, .ref q3o, .ref q4o, .int sco, .ref q5o, .int alo])), (q1o, .inl (c1o, 9, .inl f1o)), (q2o, .inl (c2o, 9, .inl f2o)), (q3o, .inl (c3o, 4, .inl f3o)), (q4o, .inl (c4o, 4, .inl f4o)), (q5o, .inl (c5o, 7, .inr (.inl f5o)))] := hD
  have hP9 := hP.sub (ws' := [(h0, .inr (4, [.int sho, .ref q1, .ref q2, .int tno, .ref q3, .ref q4, .int sco, .ref q5, .int alo])), (q1, .inl (c1, 9, .inl f_1)), (q2, .inl (c2, 9, .inl f_2)), (q3, .inl (c3, 4, .inl f_3)), (q4, .inl (c4, 4, .inl f_4)), (q5, .inl (c5, 7, .inr (.inl f_5))), (h1, .inr (4, [.int sho, .ref q1o, .ref q2o, .int tno, .ref q3o, .ref q4o, .int sco, .ref q5o, .int alo])), (q1o, .inl (c1o, 9, .inl f1o)), (q2o, .inl (c2o, 9, .inl f2o)), (q3o, .inl (c3o, 4, .inl f3o)), (q4o, .inl (c4o, 4, .inl f4o)), (q5o, .inl (c5o, 7, .inr (.inl f5o)))]) [0, 1, 2, 3, 4, 5, 6, 7, 8, 9, 10, 11] rfl
  have hD9 := hD.sub (ws' := [(h0, .inr (4, [.int sho, .ref q1, .ref q2, .int tno, .ref q3, .ref q4, .int sco, .ref q5, .int alo])), (q1, .inl (c1, 9, .inl f_1)), (q2, .inl (c2, 9, .inl f_2)), (q3, .inl (c3, 4, .inl f_3)), (q4, .inl (c4, 4, .inl f_4)), (q5, .inl (c5, 7, .inr (.inl f_5))), (h1, .inr (4, [.int sho, .ref q1o, .ref q2o, .int tno, .ref q3o, .ref q4o, .int sco, .ref q5o, .int alo])), (q1o, .inl (c1o, 9, .inl f1o)), (q2o, .inl (c2o, 9, .inl f2o)), (q3o, .inl (c3o, 4, .inl f3o)), (q4o, .inl (c4o, 4, .inl f4o)), (q5o, .inl (c5o, 7, .inr (.inl f5o)))]) [0, 1, 2, 3, 4, 5, 6, 7, 8, 9, 10, 11] (by decide) rfl
  have hK9 := hK.sub (tys' := [(c1, .int), (c2, .int), (c3, .int), (c4, .int), (c5, .long), (c1o, .int), (c2o, .int), (c3o, .int), (c4o, .int), (c5o, .long)]) [0, 1, 2, 3, 4, 5, 6, 7, 8, 9] rfl
  exact W.vret hx hb hr (fun t ht hW => ⟨⟨(), rfl, trivial, f_1, f_2, f_3, f_4, f_5, by rw [ht]; exact hP9, va_K.moved hW.alike hK9, hD9⟩, hS.F ht⟩) hS.2.2 dX6_takeAll_105

