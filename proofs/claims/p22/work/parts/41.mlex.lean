theorem dX9_byteAt_0 : decode cX9_byteAt 0 = .ok (.iload_n 1, 1) := by decide +kernel
theorem dX9_byteAt_1 : decode cX9_byteAt 1 = .ok (.aload_n 0, 1) := by decide +kernel
theorem dX9_byteAt_2 : decode cX9_byteAt 2 = .ok (.getfield 188, 3) := by decide +kernel
theorem dX9_byteAt_5 : decode cX9_byteAt 5 = .ok (.if_icmp .ge 12, 3) := by decide +kernel
theorem dX9_byteAt_8 : decode cX9_byteAt 8 = .ok (.aload_n 0, 1) := by decide +kernel
theorem dX9_byteAt_9 : decode cX9_byteAt 9 = .ok (.getfield 32, 3) := by decide +kernel
theorem dX9_byteAt_12 : decode cX9_byteAt 12 = .ok (.iload_n 1, 1) := by decide +kernel
theorem dX9_byteAt_13 : decode cX9_byteAt 13 = .ok (.iaload, 1) := by decide +kernel
theorem dX9_byteAt_14 : decode cX9_byteAt 14 = .ok (.goto 4, 3) := by decide +kernel
theorem dX9_byteAt_17 : decode cX9_byteAt 17 = .ok (.iconst (-1), 1) := by decide +kernel
theorem dX9_byteAt_18 : decode cX9_byteAt 18 = .ok (.ireturn, 1) := by decide +kernel
theorem dX9_next_0 : decode cX9_next 0 = .ok (.aload_n 0, 1) := by decide +kernel
theorem dX9_next_1 : decode cX9_next 1 = .ok (.aload_n 0, 1) := by decide +kernel
theorem dX9_next_2 : decode cX9_next 2 = .ok (.getfield 191, 3) := by decide +kernel
theorem dX9_next_5 : decode cX9_next 5 = .ok (.putfield 194, 3) := by decide +kernel
theorem dX9_next_8 : decode cX9_next 8 = .ok (.aload_n 0, 1) := by decide +kernel
theorem dX9_next_9 : decode cX9_next 9 = .ok (.aload_n 0, 1) := by decide +kernel
theorem dX9_next_10 : decode cX9_next 10 = .ok (.getfield 194, 3) := by decide +kernel
theorem dX9_next_13 : decode cX9_next 13 = .ok (.invokevirtual 197, 3) := by decide +kernel
theorem dX9_next_16 : decode cX9_next 16 = .ok (.bipush 32, 2) := by decide +kernel
theorem dX9_next_18 : decode cX9_next 18 = .ok (.if_icmp .ne 16, 3) := by decide +kernel
theorem dX9_next_21 : decode cX9_next 21 = .ok (.aload_n 0, 1) := by decide +kernel
theorem dX9_next_22 : decode cX9_next 22 = .ok (.dup, 1) := by decide +kernel
theorem dX9_next_23 : decode cX9_next 23 = .ok (.getfield 194, 3) := by decide +kernel
theorem dX9_next_26 : decode cX9_next 26 = .ok (.iconst 1, 1) := by decide +kernel
theorem dX9_next_27 : decode cX9_next 27 = .ok (.iadd, 1) := by decide +kernel
theorem dX9_next_28 : decode cX9_next 28 = .ok (.putfield 194, 3) := by decide +kernel
theorem dX9_next_31 : decode cX9_next 31 = .ok (.goto (-23), 3) := by decide +kernel
theorem dX9_next_34 : decode cX9_next 34 = .ok (.aload_n 0, 1) := by decide +kernel
theorem dX9_next_35 : decode cX9_next 35 = .ok (.aload_n 0, 1) := by decide +kernel
theorem dX9_next_36 : decode cX9_next 36 = .ok (.getfield 194, 3) := by decide +kernel
theorem dX9_next_39 : decode cX9_next 39 = .ok (.invokevirtual 197, 3) := by decide +kernel
theorem dX9_next_42 : decode cX9_next 42 = .ok (.istore_n 1, 1) := by decide +kernel
theorem dX9_next_43 : decode cX9_next 43 = .ok (.aload_n 0, 1) := by decide +kernel
theorem dX9_next_44 : decode cX9_next 44 = .ok (.aload_n 0, 1) := by decide +kernel
theorem dX9_next_45 : decode cX9_next 45 = .ok (.getfield 194, 3) := by decide +kernel
theorem dX9_next_48 : decode cX9_next 48 = .ok (.putfield 191, 3) := by decide +kernel
theorem dX9_next_51 : decode cX9_next 51 = .ok (.aload_n 0, 1) := by decide +kernel
theorem dX9_next_52 : decode cX9_next 52 = .ok (.iconst 0, 1) := by decide +kernel
theorem dX9_next_53 : decode cX9_next 53 = .ok (.putfield 200, 3) := by decide +kernel
theorem dX9_next_56 : decode cX9_next 56 = .ok (.iload_n 1, 1) := by decide +kernel
theorem dX9_next_57 : decode cX9_next 57 = .ok (.ifCond .ge 11, 3) := by decide +kernel
theorem dX9_next_60 : decode cX9_next 60 = .ok (.aload_n 0, 1) := by decide +kernel
theorem dX9_next_61 : decode cX9_next 61 = .ok (.iconst 0, 1) := by decide +kernel
theorem dX9_next_62 : decode cX9_next 62 = .ok (.putfield 203, 3) := by decide +kernel
theorem dX9_next_65 : decode cX9_next 65 = .ok (.goto 180, 3) := by decide +kernel
theorem dX9_next_68 : decode cX9_next 68 = .ok (.iload_n 1, 1) := by decide +kernel
theorem dX9_next_69 : decode cX9_next 69 = .ok (.bipush 97, 2) := by decide +kernel
theorem dX9_next_71 : decode cX9_next 71 = .ok (.bipush 122, 2) := by decide +kernel
theorem dX9_next_73 : decode cX9_next 73 = .ok (.invokestatic 75, 3) := by decide +kernel
theorem dX9_next_76 : decode cX9_next 76 = .ok (.ifCond .eq 39, 3) := by decide +kernel
theorem dX9_next_79 : decode cX9_next 79 = .ok (.aload_n 0, 1) := by decide +kernel
theorem dX9_next_80 : decode cX9_next 80 = .ok (.iconst 1, 1) := by decide +kernel
theorem dX9_next_81 : decode cX9_next 81 = .ok (.putfield 203, 3) := by decide +kernel
theorem dX9_next_84 : decode cX9_next 84 = .ok (.aload_n 0, 1) := by decide +kernel
theorem dX9_next_85 : decode cX9_next 85 = .ok (.aload_n 0, 1) := by decide +kernel
theorem dX9_next_86 : decode cX9_next 86 = .ok (.getfield 191, 3) := by decide +kernel
theorem dX9_next_89 : decode cX9_next 89 = .ok (.invokevirtual 197, 3) := by decide +kernel
theorem dX9_next_92 : decode cX9_next 92 = .ok (.bipush 97, 2) := by decide +kernel
theorem dX9_next_94 : decode cX9_next 94 = .ok (.bipush 122, 2) := by decide +kernel
theorem dX9_next_96 : decode cX9_next 96 = .ok (.invokestatic 75, 3) := by decide +kernel
theorem dX9_next_99 : decode cX9_next 99 = .ok (.ifCond .eq 146, 3) := by decide +kernel
theorem dX9_next_102 : decode cX9_next 102 = .ok (.aload_n 0, 1) := by decide +kernel
theorem dX9_next_103 : decode cX9_next 103 = .ok (.dup, 1) := by decide +kernel
theorem dX9_next_104 : decode cX9_next 104 = .ok (.getfield 191, 3) := by decide +kernel
theorem dX9_next_107 : decode cX9_next 107 = .ok (.iconst 1, 1) := by decide +kernel
theorem dX9_next_108 : decode cX9_next 108 = .ok (.iadd, 1) := by decide +kernel
theorem dX9_next_109 : decode cX9_next 109 = .ok (.putfield 191, 3) := by decide +kernel
theorem dX9_next_112 : decode cX9_next 112 = .ok (.goto (-28), 3) := by decide +kernel
theorem dX9_next_115 : decode cX9_next 115 = .ok (.iload_n 1, 1) := by decide +kernel
theorem dX9_next_116 : decode cX9_next 116 = .ok (.bipush 48, 2) := by decide +kernel
theorem dX9_next_118 : decode cX9_next 118 = .ok (.bipush 57, 2) := by decide +kernel
theorem dX9_next_120 : decode cX9_next 120 = .ok (.invokestatic 75, 3) := by decide +kernel
theorem dX9_next_123 : decode cX9_next 123 = .ok (.ifCond .eq 68, 3) := by decide +kernel
theorem dX9_next_126 : decode cX9_next 126 = .ok (.aload_n 0, 1) := by decide +kernel
theorem dX9_next_127 : decode cX9_next 127 = .ok (.iconst 2, 1) := by decide +kernel
theorem dX9_next_128 : decode cX9_next 128 = .ok (.putfield 203, 3) := by decide +kernel
theorem dX9_next_131 : decode cX9_next 131 = .ok (.aload_n 0, 1) := by decide +kernel
theorem dX9_next_132 : decode cX9_next 132 = .ok (.aload_n 0, 1) := by decide +kernel
theorem dX9_next_133 : decode cX9_next 133 = .ok (.getfield 191, 3) := by decide +kernel
theorem dX9_next_136 : decode cX9_next 136 = .ok (.invokevirtual 197, 3) := by decide +kernel
theorem dX9_next_139 : decode cX9_next 139 = .ok (.bipush 48, 2) := by decide +kernel
theorem dX9_next_141 : decode cX9_next 141 = .ok (.bipush 57, 2) := by decide +kernel
theorem dX9_next_143 : decode cX9_next 143 = .ok (.invokestatic 75, 3) := by decide +kernel
theorem dX9_next_146 : decode cX9_next 146 = .ok (.ifCond .eq 99, 3) := by decide +kernel
theorem dX9_next_149 : decode cX9_next 149 = .ok (.aload_n 0, 1) := by decide +kernel
theorem dX9_next_150 : decode cX9_next 150 = .ok (.sipush 10000, 3) := by decide +kernel
theorem dX9_next_153 : decode cX9_next 153 = .ok (.bipush 10, 2) := by decide +kernel
theorem dX9_next_155 : decode cX9_next 155 = .ok (.aload_n 0, 1) := by decide +kernel
theorem dX9_next_156 : decode cX9_next 156 = .ok (.getfield 200, 3) := by decide +kernel
theorem dX9_next_159 : decode cX9_next 159 = .ok (.imul, 1) := by decide +kernel
theorem dX9_next_160 : decode cX9_next 160 = .ok (.aload_n 0, 1) := by decide +kernel
theorem dX9_next_161 : decode cX9_next 161 = .ok (.aload_n 0, 1) := by decide +kernel
theorem dX9_next_162 : decode cX9_next 162 = .ok (.getfield 191, 3) := by decide +kernel
theorem dX9_next_165 : decode cX9_next 165 = .ok (.invokevirtual 197, 3) := by decide +kernel
theorem dX9_next_168 : decode cX9_next 168 = .ok (.iadd, 1) := by decide +kernel
theorem dX9_next_169 : decode cX9_next 169 = .ok (.bipush 48, 2) := by decide +kernel
theorem dX9_next_171 : decode cX9_next 171 = .ok (.isub, 1) := by decide +kernel
theorem dX9_next_172 : decode cX9_next 172 = .ok (.invokestatic 171, 3) := by decide +kernel
theorem dX9_next_175 : decode cX9_next 175 = .ok (.putfield 200, 3) := by decide +kernel
theorem dX9_next_178 : decode cX9_next 178 = .ok (.aload_n 0, 1) := by decide +kernel
theorem dX9_next_179 : decode cX9_next 179 = .ok (.dup, 1) := by decide +kernel
theorem dX9_next_180 : decode cX9_next 180 = .ok (.getfield 191, 3) := by decide +kernel
theorem dX9_next_183 : decode cX9_next 183 = .ok (.iconst 1, 1) := by decide +kernel
theorem dX9_next_184 : decode cX9_next 184 = .ok (.iadd, 1) := by decide +kernel
theorem dX9_next_185 : decode cX9_next 185 = .ok (.putfield 191, 3) := by decide +kernel
theorem dX9_next_188 : decode cX9_next 188 = .ok (.goto (-57), 3) := by decide +kernel
theorem dX9_next_191 : decode cX9_next 191 = .ok (.iload_n 1, 1) := by decide +kernel
theorem dX9_next_192 : decode cX9_next 192 = .ok (.invokestatic 206, 3) := by decide +kernel
theorem dX9_next_195 : decode cX9_next 195 = .ok (.ifCond .eq 35, 3) := by decide +kernel
theorem dX9_next_198 : decode cX9_next 198 = .ok (.aload_n 0, 1) := by decide +kernel
theorem dX9_next_199 : decode cX9_next 199 = .ok (.iconst 4, 1) := by decide +kernel
theorem dX9_next_200 : decode cX9_next 200 = .ok (.putfield 203, 3) := by decide +kernel
theorem dX9_next_203 : decode cX9_next 203 = .ok (.aload_n 0, 1) := by decide +kernel
theorem dX9_next_204 : decode cX9_next 204 = .ok (.aload_n 0, 1) := by decide +kernel
theorem dX9_next_205 : decode cX9_next 205 = .ok (.getfield 191, 3) := by decide +kernel
theorem dX9_next_208 : decode cX9_next 208 = .ok (.invokevirtual 197, 3) := by decide +kernel
theorem dX9_next_211 : decode cX9_next 211 = .ok (.invokestatic 206, 3) := by decide +kernel
theorem dX9_next_214 : decode cX9_next 214 = .ok (.ifCond .eq 31, 3) := by decide +kernel
theorem dX9_next_217 : decode cX9_next 217 = .ok (.aload_n 0, 1) := by decide +kernel
theorem dX9_next_218 : decode cX9_next 218 = .ok (.dup, 1) := by decide +kernel
theorem dX9_next_219 : decode cX9_next 219 = .ok (.getfield 191, 3) := by decide +kernel
theorem dX9_next_222 : decode cX9_next 222 = .ok (.iconst 1, 1) := by decide +kernel
theorem dX9_next_223 : decode cX9_next 223 = .ok (.iadd, 1) := by decide +kernel
theorem dX9_next_224 : decode cX9_next 224 = .ok (.putfield 191, 3) := by decide +kernel
theorem dX9_next_227 : decode cX9_next 227 = .ok (.goto (-24), 3) := by decide +kernel
theorem dX9_next_230 : decode cX9_next 230 = .ok (.aload_n 0, 1) := by decide +kernel
theorem dX9_next_231 : decode cX9_next 231 = .ok (.iconst 3, 1) := by decide +kernel
theorem dX9_next_232 : decode cX9_next 232 = .ok (.putfield 203, 3) := by decide +kernel
theorem dX9_next_235 : decode cX9_next 235 = .ok (.aload_n 0, 1) := by decide +kernel
theorem dX9_next_236 : decode cX9_next 236 = .ok (.dup, 1) := by decide +kernel
theorem dX9_next_237 : decode cX9_next 237 = .ok (.getfield 191, 3) := by decide +kernel
theorem dX9_next_240 : decode cX9_next 240 = .ok (.iconst 1, 1) := by decide +kernel
theorem dX9_next_241 : decode cX9_next 241 = .ok (.iadd, 1) := by decide +kernel
theorem dX9_next_242 : decode cX9_next 242 = .ok (.putfield 191, 3) := by decide +kernel
theorem dX9_next_245 : decode cX9_next 245 = .ok (.return_, 1) := by decide +kernel
theorem dX9_isWord_0 : decode cX9_isWord 0 = .ok (.aload_n 0, 1) := by decide +kernel
theorem dX9_isWord_1 : decode cX9_isWord 1 = .ok (.getfield 203, 3) := by decide +kernel
theorem dX9_isWord_4 : decode cX9_isWord 4 = .ok (.iconst 1, 1) := by decide +kernel
theorem dX9_isWord_5 : decode cX9_isWord 5 = .ok (.if_icmp .ne 23, 3) := by decide +kernel
theorem dX9_isWord_8 : decode cX9_isWord 8 = .ok (.aload_n 0, 1) := by decide +kernel
theorem dX9_isWord_9 : decode cX9_isWord 9 = .ok (.getfield 191, 3) := by decide +kernel
theorem dX9_isWord_12 : decode cX9_isWord 12 = .ok (.aload_n 0, 1) := by decide +kernel
theorem dX9_isWord_13 : decode cX9_isWord 13 = .ok (.getfield 194, 3) := by decide +kernel
theorem dX9_isWord_16 : decode cX9_isWord 16 = .ok (.isub, 1) := by decide +kernel
theorem dX9_isWord_17 : decode cX9_isWord 17 = .ok (.aload_n 1, 1) := by decide +kernel
theorem dX9_isWord_18 : decode cX9_isWord 18 = .ok (.invokevirtual 209, 3) := by decide +kernel
theorem dX9_isWord_21 : decode cX9_isWord 21 = .ok (.if_icmp .ne 7, 3) := by decide +kernel
theorem dX9_isWord_24 : decode cX9_isWord 24 = .ok (.iconst 1, 1) := by decide +kernel
theorem dX9_isWord_25 : decode cX9_isWord 25 = .ok (.goto 4, 3) := by decide +kernel
theorem dX9_isWord_28 : decode cX9_isWord 28 = .ok (.iconst 0, 1) := by decide +kernel
theorem dX9_isWord_29 : decode cX9_isWord 29 = .ok (.istore_n 2, 1) := by decide +kernel
theorem dX9_isWord_30 : decode cX9_isWord 30 = .ok (.iconst 0, 1) := by decide +kernel
theorem dX9_isWord_31 : decode cX9_isWord 31 = .ok (.istore_n 3, 1) := by decide +kernel
theorem dX9_isWord_32 : decode cX9_isWord 32 = .ok (.iload_n 3, 1) := by decide +kernel
theorem dX9_isWord_33 : decode cX9_isWord 33 = .ok (.aload_n 1, 1) := by decide +kernel
theorem dX9_isWord_34 : decode cX9_isWord 34 = .ok (.invokevirtual 209, 3) := by decide +kernel
theorem dX9_isWord_37 : decode cX9_isWord 37 = .ok (.if_icmp .ge 38, 3) := by decide +kernel
theorem dX9_isWord_40 : decode cX9_isWord 40 = .ok (.iload_n 2, 1) := by decide +kernel
theorem dX9_isWord_41 : decode cX9_isWord 41 = .ok (.ifCond .eq 34, 3) := by decide +kernel
theorem dX9_isWord_44 : decode cX9_isWord 44 = .ok (.aload_n 0, 1) := by decide +kernel
theorem dX9_isWord_45 : decode cX9_isWord 45 = .ok (.getfield 32, 3) := by decide +kernel
theorem dX9_isWord_48 : decode cX9_isWord 48 = .ok (.aload_n 0, 1) := by decide +kernel
theorem dX9_isWord_49 : decode cX9_isWord 49 = .ok (.getfield 194, 3) := by decide +kernel
theorem dX9_isWord_52 : decode cX9_isWord 52 = .ok (.iload_n 3, 1) := by decide +kernel
theorem dX9_isWord_53 : decode cX9_isWord 53 = .ok (.iadd, 1) := by decide +kernel
theorem dX9_isWord_54 : decode cX9_isWord 54 = .ok (.iaload, 1) := by decide +kernel
theorem dX9_isWord_55 : decode cX9_isWord 55 = .ok (.aload_n 1, 1) := by decide +kernel
theorem dX9_isWord_56 : decode cX9_isWord 56 = .ok (.iload_n 3, 1) := by decide +kernel
theorem dX9_isWord_57 : decode cX9_isWord 57 = .ok (.invokevirtual 213, 3) := by decide +kernel
theorem dX9_isWord_60 : decode cX9_isWord 60 = .ok (.if_icmp .ne 7, 3) := by decide +kernel
theorem dX9_isWord_63 : decode cX9_isWord 63 = .ok (.iconst 1, 1) := by decide +kernel
theorem dX9_isWord_64 : decode cX9_isWord 64 = .ok (.goto 4, 3) := by decide +kernel
theorem dX9_isWord_67 : decode cX9_isWord 67 = .ok (.iconst 0, 1) := by decide +kernel
theorem dX9_isWord_68 : decode cX9_isWord 68 = .ok (.istore_n 2, 1) := by decide +kernel
theorem dX9_isWord_69 : decode cX9_isWord 69 = .ok (.iinc 3 1, 3) := by decide +kernel
theorem dX9_isWord_72 : decode cX9_isWord 72 = .ok (.goto (-40), 3) := by decide +kernel
theorem dX9_isWord_75 : decode cX9_isWord 75 = .ok (.iload_n 2, 1) := by decide +kernel
theorem dX9_isWord_76 : decode cX9_isWord 76 = .ok (.ireturn, 1) := by decide +kernel
theorem dX9_must_0 : decode cX9_must 0 = .ok (.aload_n 0, 1) := by decide +kernel
theorem dX9_must_1 : decode cX9_must 1 = .ok (.aload_n 0, 1) := by decide +kernel
theorem dX9_must_2 : decode cX9_must 2 = .ok (.getfield 217, 3) := by decide +kernel
theorem dX9_must_5 : decode cX9_must 5 = .ok (.ifCond .ne 7, 3) := by decide +kernel
theorem dX9_must_8 : decode cX9_must 8 = .ok (.iload_n 1, 1) := by decide +kernel
theorem dX9_must_9 : decode cX9_must 9 = .ok (.ifCond .ne 7, 3) := by decide +kernel
theorem dX9_must_12 : decode cX9_must 12 = .ok (.iconst 1, 1) := by decide +kernel
theorem dX9_must_13 : decode cX9_must 13 = .ok (.goto 4, 3) := by decide +kernel
theorem dX9_must_16 : decode cX9_must 16 = .ok (.iconst 0, 1) := by decide +kernel
theorem dX9_must_17 : decode cX9_must 17 = .ok (.putfield 217, 3) := by decide +kernel
theorem dX9_must_20 : decode cX9_must 20 = .ok (.aload_n 0, 1) := by decide +kernel
theorem dX9_must_21 : decode cX9_must 21 = .ok (.getfield 217, 3) := by decide +kernel
theorem dX9_must_24 : decode cX9_must 24 = .ok (.ifCond .ne 7, 3) := by decide +kernel
theorem dX9_must_27 : decode cX9_must 27 = .ok (.aload_n 0, 1) := by decide +kernel
theorem dX9_must_28 : decode cX9_must 28 = .ok (.invokevirtual 221, 3) := by decide +kernel
theorem dX9_must_31 : decode cX9_must 31 = .ok (.return_, 1) := by decide +kernel
theorem dX9_number_0 : decode cX9_number 0 = .ok (.aload_n 0, 1) := by decide +kernel
theorem dX9_number_1 : decode cX9_number 1 = .ok (.getfield 200, 3) := by decide +kernel
theorem dX9_number_4 : decode cX9_number 4 = .ok (.istore_n 3, 1) := by decide +kernel
theorem dX9_number_5 : decode cX9_number 5 = .ok (.aload_n 0, 1) := by decide +kernel
theorem dX9_number_6 : decode cX9_number 6 = .ok (.aload_n 0, 1) := by decide +kernel
theorem dX9_number_7 : decode cX9_number 7 = .ok (.getfield 203, 3) := by decide +kernel
theorem dX9_number_10 : decode cX9_number 10 = .ok (.iconst 2, 1) := by decide +kernel
theorem dX9_number_11 : decode cX9_number 11 = .ok (.if_icmp .ne 16, 3) := by decide +kernel
theorem dX9_number_14 : decode cX9_number 14 = .ok (.iload_n 3, 1) := by decide +kernel
theorem dX9_number_15 : decode cX9_number 15 = .ok (.iload_n 1, 1) := by decide +kernel
theorem dX9_number_16 : decode cX9_number 16 = .ok (.iload_n 2, 1) := by decide +kernel
theorem dX9_number_17 : decode cX9_number 17 = .ok (.invokestatic 75, 3) := by decide +kernel
theorem dX9_number_20 : decode cX9_number 20 = .ok (.ifCond .eq 7, 3) := by decide +kernel
theorem dX9_number_23 : decode cX9_number 23 = .ok (.iconst 1, 1) := by decide +kernel
theorem dX9_number_24 : decode cX9_number 24 = .ok (.goto 4, 3) := by decide +kernel
theorem dX9_number_27 : decode cX9_number 27 = .ok (.iconst 0, 1) := by decide +kernel
theorem dX9_number_28 : decode cX9_number 28 = .ok (.invokevirtual 224, 3) := by decide +kernel
theorem dX9_number_31 : decode cX9_number 31 = .ok (.iload_n 3, 1) := by decide +kernel
theorem dX9_number_32 : decode cX9_number 32 = .ok (.ireturn, 1) := by decide +kernel
theorem dX9_readRows_0 : decode cX9_readRows 0 = .ok (.lconst 0, 1) := by decide +kernel
theorem dX9_readRows_1 : decode cX9_readRows 1 = .ok (.lstore_n 2, 1) := by decide +kernel
theorem dX9_readRows_2 : decode cX9_readRows 2 = .ok (.iconst 0, 1) := by decide +kernel
theorem dX9_readRows_3 : decode cX9_readRows 3 = .ok (.istore 4, 2) := by decide +kernel
theorem dX9_readRows_5 : decode cX9_readRows 5 = .ok (.iload 4, 2) := by decide +kernel
theorem dX9_readRows_7 : decode cX9_readRows 7 = .ok (.ifCond .eq 24, 3) := by decide +kernel
theorem dX9_readRows_10 : decode cX9_readRows 10 = .ok (.iload 4, 2) := by decide +kernel
theorem dX9_readRows_12 : decode cX9_readRows 12 = .ok (.iload_n 1, 1) := by decide +kernel
theorem dX9_readRows_13 : decode cX9_readRows 13 = .ok (.if_icmp .ge 118, 3) := by decide +kernel
theorem dX9_readRows_16 : decode cX9_readRows 16 = .ok (.aload_n 0, 1) := by decide +kernel
theorem dX9_readRows_17 : decode cX9_readRows 17 = .ok (.getfield 217, 3) := by decide +kernel
theorem dX9_readRows_20 : decode cX9_readRows 20 = .ok (.ifCond .ne 111, 3) := by decide +kernel
theorem dX9_readRows_23 : decode cX9_readRows 23 = .ok (.aload_n 0, 1) := by decide +kernel
theorem dX9_readRows_24 : decode cX9_readRows 24 = .ok (.getfield 203, 3) := by decide +kernel
theorem dX9_readRows_27 : decode cX9_readRows 27 = .ok (.iconst 4, 1) := by decide +kernel
theorem dX9_readRows_28 : decode cX9_readRows 28 = .ok (.if_icmp .ne 103, 3) := by decide +kernel
theorem dX9_readRows_31 : decode cX9_readRows 31 = .ok (.aload_n 0, 1) := by decide +kernel
theorem dX9_readRows_32 : decode cX9_readRows 32 = .ok (.getfield 194, 3) := by decide +kernel
theorem dX9_readRows_35 : decode cX9_readRows 35 = .ok (.istore 5, 2) := by decide +kernel
theorem dX9_readRows_37 : decode cX9_readRows 37 = .ok (.aload_n 0, 1) := by decide +kernel
theorem dX9_readRows_38 : decode cX9_readRows 38 = .ok (.getfield 191, 3) := by decide +kernel
theorem dX9_readRows_41 : decode cX9_readRows 41 = .ok (.aload_n 0, 1) := by decide +kernel
theorem dX9_readRows_42 : decode cX9_readRows 42 = .ok (.getfield 194, 3) := by decide +kernel
theorem dX9_readRows_45 : decode cX9_readRows 45 = .ok (.isub, 1) := by decide +kernel
theorem dX9_readRows_46 : decode cX9_readRows 46 = .ok (.istore 6, 2) := by decide +kernel
theorem dX9_readRows_48 : decode cX9_readRows 48 = .ok (.aload_n 0, 1) := by decide +kernel
theorem dX9_readRows_49 : decode cX9_readRows 49 = .ok (.aload_n 0, 1) := by decide +kernel
theorem dX9_readRows_50 : decode cX9_readRows 50 = .ok (.getfield 203, 3) := by decide +kernel
theorem dX9_readRows_53 : decode cX9_readRows 53 = .ok (.iconst 4, 1) := by decide +kernel
theorem dX9_readRows_54 : decode cX9_readRows 54 = .ok (.if_icmp .ne 13, 3) := by decide +kernel
theorem dX9_readRows_57 : decode cX9_readRows 57 = .ok (.iload 6, 2) := by decide +kernel
theorem dX9_readRows_59 : decode cX9_readRows 59 = .ok (.iload_n 1, 1) := by decide +kernel
theorem dX9_readRows_60 : decode cX9_readRows 60 = .ok (.if_icmp .gt 7, 3) := by decide +kernel
theorem dX9_readRows_63 : decode cX9_readRows 63 = .ok (.iconst 1, 1) := by decide +kernel
theorem dX9_readRows_64 : decode cX9_readRows 64 = .ok (.goto 4, 3) := by decide +kernel
theorem dX9_readRows_67 : decode cX9_readRows 67 = .ok (.iconst 0, 1) := by decide +kernel
theorem dX9_readRows_68 : decode cX9_readRows 68 = .ok (.invokevirtual 224, 3) := by decide +kernel
theorem dX9_readRows_71 : decode cX9_readRows 71 = .ok (.iconst 0, 1) := by decide +kernel
theorem dX9_readRows_72 : decode cX9_readRows 72 = .ok (.istore 7, 2) := by decide +kernel
theorem dX9_readRows_74 : decode cX9_readRows 74 = .ok (.iload 7, 2) := by decide +kernel
theorem dX9_readRows_76 : decode cX9_readRows 76 = .ok (.iload 6, 2) := by decide +kernel
theorem dX9_readRows_78 : decode cX9_readRows 78 = .ok (.if_icmp .ge 47, 3) := by decide +kernel
theorem dX9_readRows_81 : decode cX9_readRows 81 = .ok (.aload_n 0, 1) := by decide +kernel
theorem dX9_readRows_82 : decode cX9_readRows 82 = .ok (.getfield 217, 3) := by decide +kernel
theorem dX9_readRows_85 : decode cX9_readRows 85 = .ok (.ifCond .ne 40, 3) := by decide +kernel
theorem dX9_readRows_88 : decode cX9_readRows 88 = .ok (.lload_n 2, 1) := by decide +kernel
theorem dX9_readRows_89 : decode cX9_readRows 89 = .ok (.aload_n 0, 1) := by decide +kernel
theorem dX9_readRows_90 : decode cX9_readRows 90 = .ok (.getfield 32, 3) := by decide +kernel
theorem dX9_readRows_93 : decode cX9_readRows 93 = .ok (.iload 5, 2) := by decide +kernel
theorem dX9_readRows_95 : decode cX9_readRows 95 = .ok (.iload 7, 2) := by decide +kernel
theorem dX9_readRows_97 : decode cX9_readRows 97 = .ok (.iadd, 1) := by decide +kernel
theorem dX9_readRows_98 : decode cX9_readRows 98 = .ok (.iaload, 1) := by decide +kernel
theorem dX9_readRows_99 : decode cX9_readRows 99 = .ok (.bipush 35, 2) := by decide +kernel
theorem dX9_readRows_101 : decode cX9_readRows 101 = .ok (.if_icmp .ne 15, 3) := by decide +kernel
theorem dX9_readRows_104 : decode cX9_readRows 104 = .ok (.lconst 1, 1) := by decide +kernel
theorem dX9_readRows_105 : decode cX9_readRows 105 = .ok (.iload_n 1, 1) := by decide +kernel
theorem dX9_readRows_106 : decode cX9_readRows 106 = .ok (.iload 4, 2) := by decide +kernel
theorem dX9_readRows_108 : decode cX9_readRows 108 = .ok (.imul, 1) := by decide +kernel
theorem dX9_readRows_109 : decode cX9_readRows 109 = .ok (.iload 7, 2) := by decide +kernel
theorem dX9_readRows_111 : decode cX9_readRows 111 = .ok (.iadd, 1) := by decide +kernel
theorem dX9_readRows_112 : decode cX9_readRows 112 = .ok (.lshl, 1) := by decide +kernel
theorem dX9_readRows_113 : decode cX9_readRows 113 = .ok (.goto 4, 3) := by decide +kernel
theorem dX9_readRows_116 : decode cX9_readRows 116 = .ok (.lconst 0, 1) := by decide +kernel
theorem dX9_readRows_117 : decode cX9_readRows 117 = .ok (.lor, 1) := by decide +kernel
theorem dX9_readRows_118 : decode cX9_readRows 118 = .ok (.lstore_n 2, 1) := by decide +kernel
theorem dX9_readRows_119 : decode cX9_readRows 119 = .ok (.iinc 7 1, 3) := by decide +kernel
theorem dX9_readRows_122 : decode cX9_readRows 122 = .ok (.goto (-48), 3) := by decide +kernel
theorem dX9_readRows_125 : decode cX9_readRows 125 = .ok (.iinc 4 1, 3) := by decide +kernel
theorem dX9_readRows_128 : decode cX9_readRows 128 = .ok (.goto (-123), 3) := by decide +kernel
theorem dX9_readRows_131 : decode cX9_readRows 131 = .ok (.lload_n 2, 1) := by decide +kernel
theorem dX9_readRows_132 : decode cX9_readRows 132 = .ok (.lreturn, 1) := by decide +kernel
theorem dX9_after_0 : decode cX9_after 0 = .ok (.aload_n 0, 1) := by decide +kernel
theorem dX9_after_1 : decode cX9_after 1 = .ok (.aload_n 0, 1) := by decide +kernel
theorem dX9_after_2 : decode cX9_after 2 = .ok (.aload_n 1, 1) := by decide +kernel
theorem dX9_after_3 : decode cX9_after 3 = .ok (.invokevirtual 231, 3) := by decide +kernel
theorem dX9_after_6 : decode cX9_after 6 = .ok (.invokevirtual 224, 3) := by decide +kernel
theorem dX9_after_9 : decode cX9_after 9 = .ok (.aload_n 0, 1) := by decide +kernel
theorem dX9_after_10 : decode cX9_after 10 = .ok (.iload_n 2, 1) := by decide +kernel
theorem dX9_after_11 : decode cX9_after 11 = .ok (.iload_n 3, 1) := by decide +kernel
theorem dX9_after_12 : decode cX9_after 12 = .ok (.invokevirtual 235, 3) := by decide +kernel
theorem dX9_after_15 : decode cX9_after 15 = .ok (.ireturn, 1) := by decide +kernel
theorem dX9_kindTold_0 : decode cX9_kindTold 0 = .ok (.iconst (-1), 1) := by decide +kernel
theorem dX9_kindTold_1 : decode cX9_kindTold 1 = .ok (.istore_n 1, 1) := by decide +kernel
theorem dX9_kindTold_2 : decode cX9_kindTold 2 = .ok (.iconst 0, 1) := by decide +kernel
theorem dX9_kindTold_3 : decode cX9_kindTold 3 = .ok (.istore_n 2, 1) := by decide +kernel
theorem dX9_kindTold_4 : decode cX9_kindTold 4 = .ok (.iload_n 2, 1) := by decide +kernel
theorem dX9_kindTold_5 : decode cX9_kindTold 5 = .ok (.aload_n 0, 1) := by decide +kernel
theorem dX9_kindTold_6 : decode cX9_kindTold 6 = .ok (.getfield 49, 3) := by decide +kernel
theorem dX9_kindTold_9 : decode cX9_kindTold 9 = .ok (.arraylength, 1) := by decide +kernel
theorem dX9_kindTold_10 : decode cX9_kindTold 10 = .ok (.if_icmp .ge 28, 3) := by decide +kernel
theorem dX9_kindTold_13 : decode cX9_kindTold 13 = .ok (.aload_n 0, 1) := by decide +kernel
theorem dX9_kindTold_14 : decode cX9_kindTold 14 = .ok (.aload_n 0, 1) := by decide +kernel
theorem dX9_kindTold_15 : decode cX9_kindTold 15 = .ok (.getfield 49, 3) := by decide +kernel
theorem dX9_kindTold_18 : decode cX9_kindTold 18 = .ok (.iload_n 2, 1) := by decide +kernel
theorem dX9_kindTold_19 : decode cX9_kindTold 19 = .ok (.aaload, 1) := by decide +kernel
theorem dX9_kindTold_20 : decode cX9_kindTold 20 = .ok (.invokevirtual 231, 3) := by decide +kernel
theorem dX9_kindTold_23 : decode cX9_kindTold 23 = .ok (.ifCond .eq 7, 3) := by decide +kernel
theorem dX9_kindTold_26 : decode cX9_kindTold 26 = .ok (.iload_n 2, 1) := by decide +kernel
theorem dX9_kindTold_27 : decode cX9_kindTold 27 = .ok (.goto 4, 3) := by decide +kernel
theorem dX9_kindTold_30 : decode cX9_kindTold 30 = .ok (.iload_n 1, 1) := by decide +kernel
theorem dX9_kindTold_31 : decode cX9_kindTold 31 = .ok (.istore_n 1, 1) := by decide +kernel
theorem dX9_kindTold_32 : decode cX9_kindTold 32 = .ok (.iinc 2 1, 3) := by decide +kernel
theorem dX9_kindTold_35 : decode cX9_kindTold 35 = .ok (.goto (-31), 3) := by decide +kernel
theorem dX9_kindTold_38 : decode cX9_kindTold 38 = .ok (.iload_n 1, 1) := by decide +kernel
theorem dX9_kindTold_39 : decode cX9_kindTold 39 = .ok (.ireturn, 1) := by decide +kernel
def w_m_byteAt : List Cond := .code yX9_byteAt cX9_byteAt 2 (some .int) :: (([.fieldLink RX9 188 "LampShapesModel" "taped" "I", .fieldLink RX9 32 "LampShapesModel" "tape" "[I"] : List Cond) ++ wsX90)
set_option maxHeartbeats 4000000 in
set_option maxRecDepth 100000 in
theorem m_byteAt (l : Launch) (dC : Nat → ClassId) (dI : Nat → Nat → Nat) (ad : Nat → Nat) (h0 : Nat) (k : Int32) (v0 : Value) (v1 : Value) (v2 : Value) (v3 : Value) (v4 : Value) (v5 : Value) (v6 : Value) (v7 : Value) (v8 : Value) (v9 : Value) (e0 : Nat) (ts : Int32) (v12 : Value) (v13 : Value) (v14 : Value) (v15 : Value) (v16 : Value) (v17 : Value) (v18 : Value) (v19 : Value) (v20 : Value) (v21 : Value) (v22 : Value) (v23 : Value) (v24 : Value) (v25 : Value) (v26 : Value) (v27 : Value) (ec : ClassId) (ef : Nat → Int32) (htm : 0 ≤ ts.toInt ∧ ts.toInt ≤ 120) (hk : 0 ≤ k.toInt) : Met l yX9_byteAt w_m_byteAt ({ frames := 0, cells := 0, slots := 0, locals := 0 } : Room) (va_Pc [.ref h0, .int k] (preS dC dI ad [(ec, .int)] [(h0, .inr (7, [v0, v1, v2, v3, v4, v5, v6, v7, v8, v9, .ref e0, .int ts, v12, v13, v14, v15, v16, v17, v18, v19, v20, v21, v22, v23, v24, v25, v26, v27])), (e0, .inl (ec, 120, .inl ef))])) (vp_Si (fun r => (k.toInt < ts.toInt ∨ r.toInt = (-1)) ∧ r = bAt ef ts k)) 0 0 (fun _ => False) := by
  refine Met.ofW (cc := cX9_byteAt) (maxL := 2) (ret := (some .int)) (by decide) rfl ?_
  intro p e s m args below meth c s₁ B hml hv
  obtain ⟨rfl, hP, hK, hev⟩ := hv
  have hx := B.exec
  have hb := B.bytes
  have hr := B.returns
  have hts := atoms_spec (ws := w_m_byteAt) B.pre
  have hown : s.vm.findClass RX9 = some m.cls := findClass_of_methodNamed B.named
  have hlocks := B.notSynchronized
  have inX9 : ∀ w ∈ wsX90, w ∈ w_m_byteAt := fun w h => List.mem_cons_of_mem _ (List.mem_append_right _ h)
  have hP : va_P (dC, dI) vwCl [(h0, .inr (7, [v0, v1, v2, v3, v4, v5, v6, v7, v8, v9, .ref e0, .int ts, v12, v13, v14, v15, v16, v17, v18, v19, v20, v21, v22, v23, v24, v25, v26, v27])), (e0, .inl (ec, 120, .inl ef))] s.heap := hP
  have hl := lv_entry ([.ref h0, .int k]) (n := 2) (Nat.le_of_ble_eq_true rfl)
  rw [lg_entry_eq]
  generalize (lg_sl ([.ref h0, .int k]) ++ List.replicate (2 - (lg_sl ([.ref h0, .int k])).length) Slot.unset).toArray = ls at hl ⊢
  have hl : lv_has ls 2 [(0, .ref h0), (1, .int k)] := hl
  refine lv_iload_n hx hb dX9_byteAt_0 rfl (lv_at hl 1 rfl) ?_
  refine lv_aload_n hx hb dX9_byteAt_1 rfl (lv_at hl 0 rfl) ?_
  refine va_get (D := (dC, dI)) (ci := 7) (v := .int ts) (C := RX9) (T := TX9) (N := 28) hx hb hts inX9 hown hK hP 0 rfl rfl 11 (by decide) (hts _ (List.mem_of_getElem? (i := 1) rfl)) (fun _ h9 => h9) rfl dX9_byteAt_2 ?_
  have rc_1_x := pp_rng k
  have rc_1_y := pp_rng ts
  refine lv_icmp_ge (tgt := 17) hx hb dX9_byteAt_5 (by decide) (fun c_1 => ?_) (fun c_1 => ?_)
  · skip
    have tc_1 : ts.toInt ≤ k.toInt := (fa_le _ _).mp c_1
    refine lv_iconst (v := (-1)) hx hb dX9_byteAt_17 (by decide) ?_
    exact W.iret (v := ((-1) : Int32)) hx hb hr (fun t ht hW => ⟨((-1) : Int32), rfl, ⟨by first | omega | exact Or.inr (by decide), by first | (unfold bAt; rw [if_neg (by omega)]) | (unfold bAt; rw [if_pos (by omega)]; assumption)⟩, ht⟩) (fun _ h => absurd h List.not_mem_nil) dX9_byteAt_18
  · skip
    have tc_1 : ¬ ts.toInt ≤ k.toInt := fun h => c_1 ((fa_le _ _).mpr h)
    refine lv_aload_n hx hb dX9_byteAt_8 rfl (lv_at hl 0 rfl) ?_
    refine va_get (D := (dC, dI)) (ci := 7) (v := .ref e0) (C := RX9) (T := TX9) (N := 28) hx hb hts inX9 hown hK hP 0 rfl rfl 10 (by decide) (hts _ (List.mem_of_getElem? (i := 2) rfl)) (fun _ h9 => h9) rfl dX9_byteAt_9 ?_
    refine lv_iload_n hx hb dX9_byteAt_12 rfl (lv_at hl 1 rfl) ?_
    refine va_iald hx hb hK hP 1 0 rfl rfl (vp_in_iff.mpr ⟨by omega, by omega⟩) dX9_byteAt_13 ?_
    refine lv_topi (fun n_2 en_2 => ?_)
    refine lv_goto (tgt := 18) hx hb dX9_byteAt_14 (by decide) ?_
    exact W.iret (v := n_2) hx hb hr (fun t ht hW => ⟨n_2, rfl, ⟨by first | omega | exact Or.inr (by decide), by first | (unfold bAt; rw [if_neg (by omega)]) | (unfold bAt; rw [if_pos (by omega)]; assumption)⟩, ht⟩) (fun _ h => absurd h List.not_mem_nil) dX9_byteAt_18

def w_m_isRowSign2 : List Cond := .code yX9_isRowSign cX9_isRowSign 1 (some .boolean) :: (([] : List Cond))
set_option maxHeartbeats 4000000 in
set_option maxRecDepth 100000 in
theorem m_isRowSign2 (l : Launch) (dC : Nat → ClassId) (dI : Nat → Nat → Nat) (ad : Nat → Nat) (a : Int32) : Met l yX9_isRowSign w_m_isRowSign2 ({ frames := 0, cells := 0, slots := 0, locals := 0 } : Room) (va_Pc [.int a] (preS dC dI ad [] [])) (vp_Si (fun r => r.toInt = 0 ∨ (r.toInt = 1 ∧ 0 ≤ a.toInt))) 0 0 (fun _ => False) := by
  refine Met.ofW (cc := cX9_isRowSign) (maxL := 1) (ret := (some .boolean)) (by decide) rfl ?_
  intro p e s m args below meth c s₁ B hml hv
  obtain ⟨rfl, hP, hK, hev⟩ := hv
  have hx := B.exec
  have hb := B.bytes
  have hr := B.returns
  have hts := atoms_spec (ws := w_m_isRowSign2) B.pre
  have hown : s.vm.findClass RX9 = some m.cls := findClass_of_methodNamed B.named
  have hlocks := B.notSynchronized
  have hP : va_P (dC, dI) vwCl [] s.heap := hP
  have hl := lv_entry ([.int a]) (n := 1) (Nat.le_of_ble_eq_true rfl)
  rw [lg_entry_eq]
  generalize (lg_sl ([.int a]) ++ List.replicate (1 - (lg_sl ([.int a])).length) Slot.unset).toArray = ls at hl ⊢
  have hl : lv_has ls 1 [(0, .int a)] := hl
  refine lv_iload_n hx hb dX9_isRowSign_0 rfl (lv_at hl 0 rfl) ?_
  refine lv_bipush (v := 35) hx hb dX9_isRowSign_1 (by decide) ?_
  refine lv_icmp_eq (tgt := 12) hx hb dX9_isRowSign_3 (by decide) (fun c_1 => ?_) (fun c_1 => ?_)
  · skip
    have tc_1 : a.toInt = 35 := (fa_eq _ _).mp c_1
    refine lv_iconst (v := 1) hx hb dX9_isRowSign_12 (by decide) ?_
    refine lv_goto (tgt := 17) hx hb dX9_isRowSign_13 (by decide) ?_
    exact W.zret (v := (1 : Int32)) hx hb hr (by decide) (fun t ht hW => ⟨(1 : Int32), rfl, (by first | omega | decide | (simp only [fa_lt, fa_le, fa_eq, and_true, true_and, and_false, false_and, not_true_eq_false, not_false_eq_true, li_0, li_1, li_2, li_3, li_4, li_5, li_6, li_7, li_8, li_9, li_10, li_12, li_15, li_16, li_20, li_30, li_34, li_38, li_40, li_63, li_64, li_65, li_78, li_120, li_1000, li_4000, li_10000, li_11077, li_255, li_65535, li_m1, li_m2, li_m1000000001, li_m1000000002, li_m1000000003, li_m1000000004, li_m1000000005, li_m1000000006, li_m1000000007, or_true, true_or, or_false, false_or, implies_true, true_implies, false_implies] <;> omega)), ht⟩) (fun _ h => absurd h List.not_mem_nil) dX9_isRowSign_17
  · skip
    have tc_1 : ¬ a.toInt = 35 := fun h => c_1 ((fa_eq _ _).mpr h)
    refine lv_iload_n hx hb dX9_isRowSign_6 rfl (lv_at hl 0 rfl) ?_
    refine lv_bipush (v := 46) hx hb dX9_isRowSign_7 (by decide) ?_
    refine lv_icmp_ne (tgt := 16) hx hb dX9_isRowSign_9 (by decide) (fun c_2 => ?_) (fun c_2 => ?_)
    · skip
      have tc_2 : ¬ a.toInt = 46 := fun h => c_2 ((fa_eq _ _).mpr h)
      refine lv_iconst (v := 0) hx hb dX9_isRowSign_16 (by decide) ?_
      exact W.zret (v := (0 : Int32)) hx hb hr (by decide) (fun t ht hW => ⟨(0 : Int32), rfl, (by first | omega | decide | (simp only [fa_lt, fa_le, fa_eq, and_true, true_and, and_false, false_and, not_true_eq_false, not_false_eq_true, li_0, li_1, li_2, li_3, li_4, li_5, li_6, li_7, li_8, li_9, li_10, li_12, li_15, li_16, li_20, li_30, li_34, li_38, li_40, li_63, li_64, li_65, li_78, li_120, li_1000, li_4000, li_10000, li_11077, li_255, li_65535, li_m1, li_m2, li_m1000000001, li_m1000000002, li_m1000000003, li_m1000000004, li_m1000000005, li_m1000000006, li_m1000000007, or_true, true_or, or_false, false_or, implies_true, true_implies, false_implies] <;> omega)), ht⟩) (fun _ h => absurd h List.not_mem_nil) dX9_isRowSign_17
    · skip
      have tc_2 : a.toInt = 46 := (fa_eq _ _).mp c_2
      refine lv_iconst (v := 1) hx hb dX9_isRowSign_12 (by decide) ?_
      refine lv_goto (tgt := 17) hx hb dX9_isRowSign_13 (by decide) ?_
      exact W.zret (v := (1 : Int32)) hx hb hr (by decide) (fun t ht hW => ⟨(1 : Int32), rfl, (by first | omega | decide | (simp only [fa_lt, fa_le, fa_eq, and_true, true_and, and_false, false_and, not_true_eq_false, not_false_eq_true, li_0, li_1, li_2, li_3, li_4, li_5, li_6, li_7, li_8, li_9, li_10, li_12, li_15, li_16, li_20, li_30, li_34, li_38, li_40, li_63, li_64, li_65, li_78, li_120, li_1000, li_4000, li_10000, li_11077, li_255, li_65535, li_m1, li_m2, li_m1000000001, li_m1000000002, li_m1000000003, li_m1000000004, li_m1000000005, li_m1000000006, li_m1000000007, or_true, true_or, or_false, false_or, implies_true, true_implies, false_implies] <;> omega)), ht⟩) (fun _ h => absurd h List.not_mem_nil) dX9_isRowSign_17

def w_m_next : List Cond := .code yX9_next cX9_next 2 none :: (([.fieldLink RX9 191 "LampShapesModel" "ends" "I", .fieldLink RX9 194 "LampShapesModel" "begins" "I", .methodLink RX9 197 yX9_byteAt, .instanceMethod yX9_byteAt, .selects RX9 yX9_byteAt yX9_byteAt, .initialized RX9, .code yX9_byteAt cX9_byteAt 2 (some .int), .fieldLink RX9 188 "LampShapesModel" "taped" "I", .fieldLink RX9 32 "LampShapesModel" "tape" "[I", .fieldLink RX9 200 "LampShapesModel" "value" "I", .methodLink RX9 75 yX9_within, .static yX9_within, .code yX9_within cX9_within 3 (some .boolean), .methodLink RX9 206 yX9_isRowSign, .static yX9_isRowSign, .code yX9_isRowSign cX9_isRowSign 1 (some .boolean), .fieldLink RX9 203 "LampShapesModel" "sort" "I", .methodLink RX9 171 Lib.Math.min.name, .static Lib.Math.min.name, .initialized "java/lang/Math", .code Lib.Math.min.name Lib.Math.min.code 2 (some .int)] : List Cond) ++ wsX90)
set_option maxRecDepth 20000 in
theorem g_m_next_m_byteAt_197 : GoodIn w_m_next (wsV RX9 197 RX9 yX9_byteAt w_m_byteAt) := goodIn_r _ [3, 4, 5, 6, 7, 8, 9, 22, 23, 24, 25, 26, 27, 28, 29, 30, 31, 32, 33, 34, 35, 36, 37, 38, 39, 40, 41, 42, 43, 44, 45, 46, 47, 48, 49] rfl (by decide +kernel)
set_option maxRecDepth 20000 in
theorem g_m_next_m_within_75 : GoodIn w_m_next (va_wsS RX9 75 yX9_within w_m_within) := goodIn_r _ [11, 12, 6, 13] rfl (by decide +kernel)
set_option maxRecDepth 20000 in
theorem g_m_next_m_isRowSign2_206 : GoodIn w_m_next (va_wsS RX9 206 yX9_isRowSign w_m_isRowSign2) := goodIn_r _ [14, 15, 6, 16] rfl (by decide +kernel)
set_option maxHeartbeats 4000000 in
set_option maxRecDepth 100000 in
theorem m_next (l : Launch) (dC : Nat → ClassId) (dI : Nat → Nat → Nat) (ad : Nat → Nat) (h0 : Nat) (v0 : Value) (v1 : Value) (v2 : Value) (v3 : Value) (v4 : Value) (v5 : Value) (v6 : Value) (v7 : Value) (v8 : Value) (v9 : Value) (e0 : Nat) (ts : Int32) (bg : Int32) (en : Int32) (so : Int32) (va : Int32) (v16 : Value) (v17 : Value) (v18 : Value) (v19 : Value) (v20 : Value) (v21 : Value) (v22 : Value) (v23 : Value) (v24 : Value) (v25 : Value) (v26 : Value) (v27 : Value) (ec : ClassId) (ef : Nat → Int32) (sz : Nat) (htm : 0 ≤ ts.toInt ∧ ts.toInt ≤ 120) (hen : 0 ≤ en.toInt ∧ en.toInt ≤ ts.toInt) : Met l yX9_next w_m_next ({ frames := 1, cells := 0, slots := 0, locals := 22 } : Room) (va_Pc [.ref h0] (preM dC dI ad [(ec, .int)] [(h0, .inr (7, [v0, v1, v2, v3, v4, v5, v6, v7, v8, v9, .ref e0, .int ts, .int bg, .int en, .int so, .int va, v16, v17, v18, v19, v20, v21, v22, v23, v24, v25, v26, v27])), (e0, .inl (ec, 120, .inl ef))] sz)) (va_Qv (fun (_ : Unit) => True) (fun _ t => ∃ (bg2 : Int32), ∃ (en2 : Int32), ∃ (so2 : Int32), ∃ (va2 : Int32), (0 ≤ bg2.toInt ∧ en2.toInt ≤ ts.toInt ∧ bg2.toInt ≤ en2.toInt) ∧ ((so2.toInt = 1 ∨ so2.toInt = 3) → bg2.toInt + 1 ≤ en2.toInt) ∧ (0 ≤ va2.toInt ∧ va2.toInt ≤ 10000) ∧ (en.toInt ≤ bg2.toInt) ∧ va_P (dC, dI) vwCl [(h0, .inr (7, [v0, v1, v2, v3, v4, v5, v6, v7, v8, v9, .ref e0, .int ts, .int bg2, .int en2, .int so2, .int va2, v16, v17, v18, v19, v20, v21, v22, v23, v24, v25, v26, v27])), (e0, .inl (ec, 120, .inl ef))] t.heap ∧ va_K (dC, dI) vwCl [(ec, .int)] t ∧ va_D (va_A [(h0, .inr (7, [v0, v1, v2, v3, v4, v5, v6, v7, v8, v9, .ref e0, .int ts, .int bg, .int en, .int so, .int va, v16, v17, v18, v19, v20, v21, v22, v23, v24, v25, v26, v27])), (e0, .inl (ec, 120, .inl ef))] sz) [(h0, .inr (7, [v0, v1, v2, v3, v4, v5, v6, v7, v8, v9, .ref e0, .int ts, .int bg2, .int en2, .int so2, .int va2, v16, v17, v18, v19, v20, v21, v22, v23, v24, v25, v26, v27])), (e0, .inl (ec, 120, .inl ef))]) (va_A [(h0, .inr (7, [v0, v1, v2, v3, v4, v5, v6, v7, v8, v9, .ref e0, .int ts, .int bg, .int en, .int so, .int va, v16, v17, v18, v19, v20, v21, v22, v23, v24, v25, v26, v27])), (e0, .inl (ec, 120, .inl ef))] sz)) 0 0 (va_A [(h0, .inr (7, [v0, v1, v2, v3, v4, v5, v6, v7, v8, v9, .ref e0, .int ts, .int bg, .int en, .int so, .int va, v16, v17, v18, v19, v20, v21, v22, v23, v24, v25, v26, v27])), (e0, .inl (ec, 120, .inl ef))] sz) := by
  refine Met.ofW (cc := cX9_next) (maxL := 2) (ret := none) (by decide) rfl ?_
  intro p e s m args below meth c s₁ B hml hv
  obtain ⟨rfl, hsz, hP, hK, hD0, hev⟩ := hv
  have hx := B.exec
  have hb := B.bytes
  have hr := B.returns
  have hts := atoms_spec (ws := w_m_next) B.pre
  have hown : s.vm.findClass RX9 = some m.cls := findClass_of_methodNamed B.named
  have hlocks := B.notSynchronized
  have inX9 : ∀ w ∈ wsX90, w ∈ w_m_next := fun w h => List.mem_cons_of_mem _ (List.mem_append_right _ h)
  subst hsz
  have hD := hD0.self (sz := s.heap.size)
  generalize hAe : va_A [(h0, .inr (7, [v0, v1, v2, v3, v4, v5, v6, v7, v8, v9, .ref e0, .int ts, .int bg, .int en, .int so, .int va, v16, v17, v18, v19, v20, v21, v22, v23, v24, v25, v26, v27])), (e0, .inl (ec, 120, .inl ef))] s.heap.size = A at hD ⊢
  have hA : ∀ q : Nat, s.heap.size ≤ q → A q := fun q h => by rw [← hAe]; exact Or.inr h
  have hS : va_S A s.heap s.heap [] := va_S.rf
  have hP : va_P (dC, dI) vwCl [(h0, .inr (7, [v0, v1, v2, v3, v4, v5, v6, v7, v8, v9, .ref e0, .int ts, .int bg, .int en, .int so, .int va, v16, v17, v18, v19, v20, v21, v22, v23, v24, v25, v26, v27])), (e0, .inl (ec, 120, .inl ef))] s.heap := hP
  have hl := lv_entry ([.ref h0]) (n := 2) (Nat.le_of_ble_eq_true rfl)
  rw [lg_entry_eq]
  generalize (lg_sl ([.ref h0]) ++ List.replicate (2 - (lg_sl ([.ref h0])).length) Slot.unset).toArray = ls at hl ⊢
  have hl : lv_has ls 2 [(0, .ref h0)] := hl
  refine lv_aload_n hx hb dX9_next_0 rfl (lv_at hl 0 rfl) ?_
  refine lv_aload_n hx hb dX9_next_1 rfl (lv_at hl 0 rfl) ?_
  refine va_get (D := (dC, dI)) (ci := 7) (v := .int en) (C := RX9) (T := TX9) (N := 28) hx hb hts inX9 hown hK hP 0 rfl rfl 13 (by decide) (hts _ (List.mem_of_getElem? (i := 1) rfl)) (fun _ h9 => h9) rfl dX9_next_2 ?_
  refine va_put (D := (dC, dI)) (ci := 7) (v := .int en) (ty := .int) (C := RX9) (T := TX9) (N := 28) hx hb hts inX9 tyX9 tyX9_ok nmX9 hown hK hP hD hS 0 rfl rfl 12 (by decide) (hts _ (List.mem_of_getElem? (i := 2) rfl)) (fun _ h9 => h9) rfl (by decide +kernel) rfl rfl (Nat.le_of_ble_eq_true rfl) dX9_next_5 (fun H locs hP hD hS => ?_)
  have hP : va_P (dC, dI) vwCl [(h0, .inr (7, [v0, v1, v2, v3, v4, v5, v6, v7, v8, v9, .ref e0, .int ts, .int en, .int en, .int so, .int va, v16, v17, v18, v19, v20, v21, v22, v23, v24, v25, v26, v27])), (e0, .inl (ec, 120, .inl ef))] H := hP
  have hD : va_D A [(h0, .inr (7, [v0, v1, v2, v3, v4, v5, v6, v7, v8, v9, .ref e0, .int ts, .int en, .int en, .int so, .int va, v16, v17, v18, v19, v20, v21, v22, v23, v24, v25, v26, v27])), (e0, .inl (ec, 120, .inl ef))] := hD
  refine pp_loop (ι := Int32) (fun y3 => (ts.toInt - y3.toInt).toNat) (fun y3 H locs ls => (0 ≤ y3.toInt ∧ y3.toInt ≤ ts.toInt) ∧ (en.toInt ≤ y3.toInt) ∧ va_P (dC, dI) vwCl [(h0, .inr (7, [v0, v1, v2, v3, v4, v5, v6, v7, v8, v9, .ref e0, .int ts, .int y3, .int en, .int so, .int va, v16, v17, v18, v19, v20, v21, v22, v23, v24, v25, v26, v27])), (e0, .inl (ec, 120, .inl ef))] H ∧ va_D A [(h0, .inr (7, [v0, v1, v2, v3, v4, v5, v6, v7, v8, v9, .ref e0, .int ts, .int y3, .int en, .int so, .int va, v16, v17, v18, v19, v20, v21, v22, v23, v24, v25, v26, v27])), (e0, .inl (ec, 120, .inl ef))] ∧ va_S A s.heap H locs ∧ lv_has ls 2 [(0, .ref h0)]) ?_ en _ _ _ ⟨(by first | omega | decide | (simp only [fa_lt, fa_le, fa_eq, and_true, true_and, and_false, false_and, not_true_eq_false, not_false_eq_true, li_0, li_1, li_2, li_3, li_4, li_5, li_6, li_7, li_8, li_9, li_10, li_12, li_15, li_16, li_20, li_30, li_34, li_38, li_40, li_63, li_64, li_65, li_78, li_120, li_1000, li_4000, li_10000, li_11077, li_255, li_65535, li_m1, li_m2, li_m1000000001, li_m1000000002, li_m1000000003, li_m1000000004, li_m1000000005, li_m1000000006, li_m1000000007, or_true, true_or, or_false, false_or, implies_true, true_implies, false_implies] <;> omega)), (by first | omega | decide | (simp only [fa_lt, fa_le, fa_eq, and_true, true_and, and_false, false_and, not_true_eq_false, not_false_eq_true, li_0, li_1, li_2, li_3, li_4, li_5, li_6, li_7, li_8, li_9, li_10, li_12, li_15, li_16, li_20, li_30, li_34, li_38, li_40, li_63, li_64, li_65, li_78, li_120, li_1000, li_4000, li_10000, li_11077, li_255, li_65535, li_m1, li_m2, li_m1000000001, li_m1000000002, li_m1000000003, li_m1000000004, li_m1000000005, li_m1000000006, li_m1000000007, or_true, true_or, or_false, false_or, implies_true, true_implies, false_implies] <;> omega)), hP.sub [0, 1] rfl, hD.sub [0, 1] (by decide) rfl, hS, lv_sub hl [0] rfl⟩
  intro k_1 ihk_1 u H locs ls hm hI
  obtain ⟨y3, rfl⟩ : ∃ z, z = u := ⟨_, rfl⟩
  obtain ⟨jk_1_0, jk_1_1, hP, hD, hS, hl⟩ := hI
  have hmk_1 : (ts.toInt - y3.toInt).toNat < k_1 + 1 := hm
  clear hm
  have jk_1_0 : 0 ≤ y3.toInt ∧ y3.toInt ≤ ts.toInt := jk_1_0
  have jk_1_1 : en.toInt ≤ y3.toInt := jk_1_1
  have hl : lv_has ls 2 [(0, .ref h0)] := hl
  have hP : va_P (dC, dI) vwCl [(h0, .inr (7, [v0, v1, v2, v3, v4, v5, v6, v7, v8, v9, .ref e0, .int ts, .int y3, .int en, .int so, .int va, v16, v17, v18, v19, v20, v21, v22, v23, v24, v25, v26, v27])), (e0, .inl (ec, 120, .inl ef))] H := hP
  have hD : va_D A [(h0, .inr (7, [v0, v1, v2, v3, v4, v5, v6, v7, v8, v9, .ref e0, .int ts, .int y3, .int en, .int so, .int va, v16, v17, v18, v19, v20, v21, v22, v23, v24, v25, v26, v27])), (e0, .inl (ec, 120, .inl ef))] := hD
  refine lv_aload_n hx hb dX9_next_8 rfl (lv_at hl 0 rfl) ?_
  refine lv_aload_n hx hb dX9_next_9 rfl (lv_at hl 0 rfl) ?_
  refine va_get (D := (dC, dI)) (ci := 7) (v := .int y3) (C := RX9) (T := TX9) (N := 28) hx hb hts inX9 hown hK hP 0 rfl rfl 12 (by decide) (hts _ (List.mem_of_getElem? (i := 2) rfl)) (fun _ h9 => h9) rfl dX9_next_10 ?_
  have hPc := hP.sub (ws' := [(h0, .inr (7, [v0, v1, v2, v3, v4, v5, v6, v7, v8, v9, .ref e0, .int ts, .int y3, .int en, .int so, .int va, v16, v17, v18, v19, v20, v21, v22, v23, v24, v25, v26, v27])), (e0, .inl (ec, 120, .inl ef))]) [0, 1] rfl
  have hKc := hK.sub (tys' := [(ec, .int)]) [0] rfl
  refine vp_callSi (W.runV (As := [.int y3]) (rest := []) ⟨hx, hb, hml, hown, hts⟩ (m_byteAt l dC dI ad h0 y3 v0 v1 v2 v3 v4 v5 v6 v7 v8 v9 e0 ts (.int y3) (.int en) (.int so) (.int va) v16 v17 v18 v19 v20 v21 v22 v23 v24 v25 v26 v27 ec ef htm (by first | omega | decide | (simp only [fa_lt, fa_le, fa_eq, and_true, true_and, and_false, false_and, not_true_eq_false, not_false_eq_true, li_0, li_1, li_2, li_3, li_4, li_5, li_6, li_7, li_8, li_9, li_10, li_12, li_15, li_16, li_20, li_30, li_34, li_38, li_40, li_63, li_64, li_65, li_78, li_120, li_1000, li_4000, li_10000, li_11077, li_255, li_65535, li_m1, li_m2, li_m1000000001, li_m1000000002, li_m1000000003, li_m1000000004, li_m1000000005, li_m1000000006, li_m1000000007, or_true, true_or, or_false, false_or, implies_true, true_implies, false_implies] <;> omega))) (cwV 1 hts g_m_next_m_byteAt_197 rfl rfl rfl (by decide +kernel) ⟨(Nat.le_of_ble_eq_true rfl), (Nat.le_of_ble_eq_true rfl)⟩) ⟨preS_blind, va_recv hKc hPc (ci := 7) (q0 := 0) rfl rfl, fun U hU hW => ⟨rfl, preS_at hU hW hPc hKc hev⟩⟩ rfl rfl hl.1 rfl (lv_room (Nat.le_of_ble_eq_true rfl)) dX9_next_13 ⟨(Nat.le_of_ble_eq_true rfl), (Nat.le_of_ble_eq_true rfl)⟩) (fun r_2 hw => ?_)
  have hr_2 : (y3.toInt < ts.toInt ∨ r_2.toInt = (-1)) ∧ r_2 = bAt ef ts y3 := hw
  refine lv_bipush (v := 32) hx hb dX9_next_16 (by decide) ?_
  refine lv_icmp_ne (tgt := 34) hx hb dX9_next_18 (by decide) (fun c_3 => ?_) (fun c_3 => ?_)
  · skip
    have tc_3 : ¬ r_2.toInt = 32 := fun h => c_3 ((fa_eq _ _).mpr h)
    refine lv_aload_n hx hb dX9_next_34 rfl (lv_at hl 0 rfl) ?_
    refine lv_aload_n hx hb dX9_next_35 rfl (lv_at hl 0 rfl) ?_
    refine va_get (D := (dC, dI)) (ci := 7) (v := .int y3) (C := RX9) (T := TX9) (N := 28) hx hb hts inX9 hown hK hP 0 rfl rfl 12 (by decide) (hts _ (List.mem_of_getElem? (i := 2) rfl)) (fun _ h9 => h9) rfl dX9_next_36 ?_
    have hPc := hP.sub (ws' := [(h0, .inr (7, [v0, v1, v2, v3, v4, v5, v6, v7, v8, v9, .ref e0, .int ts, .int y3, .int en, .int so, .int va, v16, v17, v18, v19, v20, v21, v22, v23, v24, v25, v26, v27])), (e0, .inl (ec, 120, .inl ef))]) [0, 1] rfl
    have hKc := hK.sub (tys' := [(ec, .int)]) [0] rfl
    refine vp_callSi (W.runV (As := [.int y3]) (rest := []) ⟨hx, hb, hml, hown, hts⟩ (m_byteAt l dC dI ad h0 y3 v0 v1 v2 v3 v4 v5 v6 v7 v8 v9 e0 ts (.int y3) (.int en) (.int so) (.int va) v16 v17 v18 v19 v20 v21 v22 v23 v24 v25 v26 v27 ec ef htm (by first | omega | decide | (simp only [fa_lt, fa_le, fa_eq, and_true, true_and, and_false, false_and, not_true_eq_false, not_false_eq_true, li_0, li_1, li_2, li_3, li_4, li_5, li_6, li_7, li_8, li_9, li_10, li_12, li_15, li_16, li_20, li_30, li_34, li_38, li_40, li_63, li_64, li_65, li_78, li_120, li_1000, li_4000, li_10000, li_11077, li_255, li_65535, li_m1, li_m2, li_m1000000001, li_m1000000002, li_m1000000003, li_m1000000004, li_m1000000005, li_m1000000006, li_m1000000007, or_true, true_or, or_false, false_or, implies_true, true_implies, false_implies] <;> omega))) (cwV 1 hts g_m_next_m_byteAt_197 rfl rfl rfl (by decide +kernel) ⟨(Nat.le_of_ble_eq_true rfl), (Nat.le_of_ble_eq_true rfl)⟩) ⟨preS_blind, va_recv hKc hPc (ci := 7) (q0 := 0) rfl rfl, fun U hU hW => ⟨rfl, preS_at hU hW hPc hKc hev⟩⟩ rfl rfl hl.1 rfl (lv_room (Nat.le_of_ble_eq_true rfl)) dX9_next_39 ⟨(Nat.le_of_ble_eq_true rfl), (Nat.le_of_ble_eq_true rfl)⟩) (fun r_4 hw => ?_)
    have hr_4 : (y3.toInt < ts.toInt ∨ r_4.toInt = (-1)) ∧ r_4 = bAt ef ts y3 := hw
    have bs_5 : r_4.toInt = r_2.toInt := bA_same hr_4.2 hr_2.2 rfl
    refine lv_istore_n (lv' := [(1, .int r_4), (0, .ref h0)]) hx hb dX9_next_42 rfl hl (by decide) rfl (fun ls hl => ?_)
    refine lv_aload_n hx hb dX9_next_43 rfl (lv_at hl 1 rfl) ?_
    refine lv_aload_n hx hb dX9_next_44 rfl (lv_at hl 1 rfl) ?_
    refine va_get (D := (dC, dI)) (ci := 7) (v := .int y3) (C := RX9) (T := TX9) (N := 28) hx hb hts inX9 hown hK hP 0 rfl rfl 12 (by decide) (hts _ (List.mem_of_getElem? (i := 2) rfl)) (fun _ h9 => h9) rfl dX9_next_45 ?_
    refine va_put (D := (dC, dI)) (ci := 7) (v := .int y3) (ty := .int) (C := RX9) (T := TX9) (N := 28) hx hb hts inX9 tyX9 tyX9_ok nmX9 hown hK hP hD hS 0 rfl rfl 13 (by decide) (hts _ (List.mem_of_getElem? (i := 1) rfl)) (fun _ h9 => h9) rfl (by decide +kernel) rfl rfl (Nat.le_of_ble_eq_true rfl) dX9_next_48 (fun H locs hP hD hS => ?_)
    have hP : va_P (dC, dI) vwCl [(h0, .inr (7, [v0, v1, v2, v3, v4, v5, v6, v7, v8, v9, .ref e0, .int ts, .int y3, .int y3, .int so, .int va, v16, v17, v18, v19, v20, v21, v22, v23, v24, v25, v26, v27])), (e0, .inl (ec, 120, .inl ef))] H := hP
    have hD : va_D A [(h0, .inr (7, [v0, v1, v2, v3, v4, v5, v6, v7, v8, v9, .ref e0, .int ts, .int y3, .int y3, .int so, .int va, v16, v17, v18, v19, v20, v21, v22, v23, v24, v25, v26, v27])), (e0, .inl (ec, 120, .inl ef))] := hD
    refine lv_aload_n hx hb dX9_next_51 rfl (lv_at hl 1 rfl) ?_
    refine lv_iconst (v := 0) hx hb dX9_next_52 (by decide) ?_
    refine va_put (D := (dC, dI)) (ci := 7) (v := .int 0) (ty := .int) (C := RX9) (T := TX9) (N := 28) hx hb hts inX9 tyX9 tyX9_ok nmX9 hown hK hP hD hS 0 rfl rfl 15 (by decide) (hts _ (List.mem_of_getElem? (i := 10) rfl)) (fun _ h9 => h9) rfl (by decide +kernel) rfl rfl (Nat.le_of_ble_eq_true rfl) dX9_next_53 (fun H locs hP hD hS => ?_)
    have hP : va_P (dC, dI) vwCl [(h0, .inr (7, [v0, v1, v2, v3, v4, v5, v6, v7, v8, v9, .ref e0, .int ts, .int y3, .int y3, .int so, .int 0, v16, v17, v18, v19, v20, v21, v22, v23, v24, v25, v26, v27])), (e0, .inl (ec, 120, .inl ef))] H := hP
    have hD : va_D A [(h0, .inr (7, [v0, v1, v2, v3, v4, v5, v6, v7, v8, v9, .ref e0, .int ts, .int y3, .int y3, .int so, .int 0, v16, v17, v18, v19, v20, v21, v22, v23, v24, v25, v26, v27])), (e0, .inl (ec, 120, .inl ef))] := hD
    refine lv_iload_n hx hb dX9_next_56 rfl (lv_at hl 0 rfl) ?_
    refine lv_if_ge (tgt := 68) hx hb dX9_next_57 (by decide) (fun c_6 => ?_) (fun c_6 => ?_)
    · skip
      have tc_6 : 0 ≤ r_4.toInt := (fa_le _ _).mp c_6
      refine lv_iload_n hx hb dX9_next_68 rfl (lv_at hl 0 rfl) ?_
      refine lv_bipush (v := 97) hx hb dX9_next_69 (by decide) ?_
      refine lv_bipush (v := 122) hx hb dX9_next_71 (by decide) ?_
      have hPc := hP.sub (ws' := []) [] rfl
      have hKc := hK.sub (tys' := []) [] rfl
      refine vp_callSi (W.runS (As := [.int r_4, .int 97, .int 122]) (rest := []) ⟨hx, hb, hml, hown, hts⟩ (m_within l dC dI ad r_4 97 122 ) (va_cwS 3 hts g_m_next_m_within_75 rfl rfl rfl (by decide +kernel) ⟨(Nat.le_of_ble_eq_true rfl), (Nat.le_of_ble_eq_true rfl)⟩) ⟨preS_blind, fun U hU hW => ⟨rfl, preS_at hU hW hPc hKc hev⟩⟩ rfl rfl hl.1 rfl (lv_room (Nat.le_of_ble_eq_true rfl)) dX9_next_73 ⟨(Nat.le_of_ble_eq_true rfl), (Nat.le_of_ble_eq_true rfl)⟩) (fun r_7 hw => ?_)
      have hr_7 : (r_7.toInt = 1 ∧ 97 ≤ r_4.toInt ∧ r_4.toInt ≤ 122) ∨ (r_7.toInt = 0 ∧ ¬ (97 ≤ r_4.toInt ∧ r_4.toInt ≤ 122)) := hw
      refine lv_if_eq (tgt := 115) hx hb dX9_next_76 (by decide) (fun c_8 => ?_) (fun c_8 => ?_)
      · skip
        have tc_8 : r_7.toInt = 0 := (fa_eq _ _).mp c_8
        refine lv_iload_n hx hb dX9_next_115 rfl (lv_at hl 0 rfl) ?_
        refine lv_bipush (v := 48) hx hb dX9_next_116 (by decide) ?_
        refine lv_bipush (v := 57) hx hb dX9_next_118 (by decide) ?_
        have hPc := hP.sub (ws' := []) [] rfl
        have hKc := hK.sub (tys' := []) [] rfl
        refine vp_callSi (W.runS (As := [.int r_4, .int 48, .int 57]) (rest := []) ⟨hx, hb, hml, hown, hts⟩ (m_within l dC dI ad r_4 48 57 ) (va_cwS 3 hts g_m_next_m_within_75 rfl rfl rfl (by decide +kernel) ⟨(Nat.le_of_ble_eq_true rfl), (Nat.le_of_ble_eq_true rfl)⟩) ⟨preS_blind, fun U hU hW => ⟨rfl, preS_at hU hW hPc hKc hev⟩⟩ rfl rfl hl.1 rfl (lv_room (Nat.le_of_ble_eq_true rfl)) dX9_next_120 ⟨(Nat.le_of_ble_eq_true rfl), (Nat.le_of_ble_eq_true rfl)⟩) (fun r_9 hw => ?_)
        have hr_9 : (r_9.toInt = 1 ∧ 48 ≤ r_4.toInt ∧ r_4.toInt ≤ 57) ∨ (r_9.toInt = 0 ∧ ¬ (48 ≤ r_4.toInt ∧ r_4.toInt ≤ 57)) := hw
        refine lv_if_eq (tgt := 191) hx hb dX9_next_123 (by decide) (fun c_10 => ?_) (fun c_10 => ?_)
        · skip
          have tc_10 : r_9.toInt = 0 := (fa_eq _ _).mp c_10
          refine lv_iload_n hx hb dX9_next_191 rfl (lv_at hl 0 rfl) ?_
          have hPc := hP.sub (ws' := []) [] rfl
          have hKc := hK.sub (tys' := []) [] rfl
          refine vp_callSi (W.runS (As := [.int r_4]) (rest := []) ⟨hx, hb, hml, hown, hts⟩ (m_isRowSign2 l dC dI ad r_4 ) (va_cwS 1 hts g_m_next_m_isRowSign2_206 rfl rfl rfl (by decide +kernel) ⟨(Nat.le_of_ble_eq_true rfl), (Nat.le_of_ble_eq_true rfl)⟩) ⟨preS_blind, fun U hU hW => ⟨rfl, preS_at hU hW hPc hKc hev⟩⟩ rfl rfl hl.1 rfl (lv_room (Nat.le_of_ble_eq_true rfl)) dX9_next_192 ⟨(Nat.le_of_ble_eq_true rfl), (Nat.le_of_ble_eq_true rfl)⟩) (fun r_11 hw => ?_)
          have hr_11 : r_11.toInt = 0 ∨ (r_11.toInt = 1 ∧ 0 ≤ r_4.toInt) := hw
          refine lv_if_eq (tgt := 230) hx hb dX9_next_195 (by decide) (fun c_12 => ?_) (fun c_12 => ?_)
          · skip
            have tc_12 : r_11.toInt = 0 := (fa_eq _ _).mp c_12
            refine lv_aload_n hx hb dX9_next_230 rfl (lv_at hl 1 rfl) ?_
            refine lv_iconst (v := 3) hx hb dX9_next_231 (by decide) ?_
            refine va_put (D := (dC, dI)) (ci := 7) (v := .int 3) (ty := .int) (C := RX9) (T := TX9) (N := 28) hx hb hts inX9 tyX9 tyX9_ok nmX9 hown hK hP hD hS 0 rfl rfl 14 (by decide) (hts _ (List.mem_of_getElem? (i := 17) rfl)) (fun _ h9 => h9) rfl (by decide +kernel) rfl rfl (Nat.le_of_ble_eq_true rfl) dX9_next_232 (fun H locs hP hD hS => ?_)
            have hP : va_P (dC, dI) vwCl [(h0, .inr (7, [v0, v1, v2, v3, v4, v5, v6, v7, v8, v9, .ref e0, .int ts, .int y3, .int y3, .int 3, .int 0, v16, v17, v18, v19, v20, v21, v22, v23, v24, v25, v26, v27])), (e0, .inl (ec, 120, .inl ef))] H := hP
            have hD : va_D A [(h0, .inr (7, [v0, v1, v2, v3, v4, v5, v6, v7, v8, v9, .ref e0, .int ts, .int y3, .int y3, .int 3, .int 0, v16, v17, v18, v19, v20, v21, v22, v23, v24, v25, v26, v27])), (e0, .inl (ec, 120, .inl ef))] := hD
            refine lv_aload_n hx hb dX9_next_235 rfl (lv_at hl 1 rfl) ?_
            refine lv_dup hx hb dX9_next_236 rfl ?_
            refine va_get (D := (dC, dI)) (ci := 7) (v := .int y3) (C := RX9) (T := TX9) (N := 28) hx hb hts inX9 hown hK hP 0 rfl rfl 13 (by decide) (hts _ (List.mem_of_getElem? (i := 1) rfl)) (fun _ h9 => h9) rfl dX9_next_237 ?_
            refine lv_iconst (v := 1) hx hb dX9_next_240 (by decide) ?_
            refine lv_iadd hx hb dX9_next_241 ?_
            refine lv_topi (fun n_13 en_13 => ?_)
            have tn_13 : n_13.toInt = y3.toInt + 1 := pp_add en_13 rfl rfl (by omega) (by omega)
            clear en_13
            refine va_put (D := (dC, dI)) (ci := 7) (v := .int n_13) (ty := .int) (C := RX9) (T := TX9) (N := 28) hx hb hts inX9 tyX9 tyX9_ok nmX9 hown hK hP hD hS 0 rfl rfl 13 (by decide) (hts _ (List.mem_of_getElem? (i := 1) rfl)) (fun _ h9 => h9) rfl (by decide +kernel) rfl rfl (Nat.le_of_ble_eq_true rfl) dX9_next_242 (fun H locs hP hD hS => ?_)
            have hP : va_P (dC, dI) vwCl [(h0, .inr (7, [v0, v1, v2, v3, v4, v5, v6, v7, v8, v9, .ref e0, .int ts, .int y3, .int n_13, .int 3, .int 0, v16, v17, v18, v19, v20, v21, v22, v23, v24, v25, v26, v27])), (e0, .inl (ec, 120, .inl ef))] H := hP
            have hD : va_D A [(h0, .inr (7, [v0, v1, v2, v3, v4, v5, v6, v7, v8, v9, .ref e0, .int ts, .int y3, .int n_13, .int 3, .int 0, v16, v17, v18, v19, v20, v21, v22, v23, v24, v25, v26, v27])), (e0, .inl (ec, 120, .inl ef))] := hD
            have hP9 := hP.sub (ws' := [(h0, .inr (7, [v0, v1, v2, v3, v4, v5, v6, v7, v8, v9, .ref e0, .int ts, .int y3, .int n_13, .int 3, .int 0, v16, v17, v18, v19, v20, v21, v22, v23, v24, v25, v26, v27])), (e0, .inl (ec, 120, .inl ef))]) [0, 1] rfl
            have hD9 := hD.sub (ws' := [(h0, .inr (7, [v0, v1, v2, v3, v4, v5, v6, v7, v8, v9, .ref e0, .int ts, .int y3, .int n_13, .int 3, .int 0, v16, v17, v18, v19, v20, v21, v22, v23, v24, v25, v26, v27])), (e0, .inl (ec, 120, .inl ef))]) [0, 1] (by decide) rfl
            have hK9 := hK.sub (tys' := [(ec, .int)]) [0] rfl
            exact W.vret hx hb hr (fun t ht hW => ⟨⟨(), rfl, trivial, y3, n_13, 3, 0, (by first | omega | decide | (simp only [fa_lt, fa_le, fa_eq, and_true, true_and, and_false, false_and, not_true_eq_false, not_false_eq_true, li_0, li_1, li_2, li_3, li_4, li_5, li_6, li_7, li_8, li_9, li_10, li_12, li_15, li_16, li_20, li_30, li_34, li_38, li_40, li_63, li_64, li_65, li_78, li_120, li_1000, li_4000, li_10000, li_11077, li_255, li_65535, li_m1, li_m2, li_m1000000001, li_m1000000002, li_m1000000003, li_m1000000004, li_m1000000005, li_m1000000006, li_m1000000007, or_true, true_or, or_false, false_or, implies_true, true_implies, false_implies] <;> omega)), (by first | omega | decide | (simp only [fa_lt, fa_le, fa_eq, and_true, true_and, and_false, false_and, not_true_eq_false, not_false_eq_true, li_0, li_1, li_2, li_3, li_4, li_5, li_6, li_7, li_8, li_9, li_10, li_12, li_15, li_16, li_20, li_30, li_34, li_38, li_40, li_63, li_64, li_65, li_78, li_120, li_1000, li_4000, li_10000, li_11077, li_255, li_65535, li_m1, li_m2, li_m1000000001, li_m1000000002, li_m1000000003, li_m1000000004, li_m1000000005, li_m1000000006, li_m1000000007, or_true, true_or, or_false, false_or, implies_true, true_implies, false_implies] <;> omega)), (by first | omega | decide | (simp only [fa_lt, fa_le, fa_eq, and_true, true_and, and_false, false_and, not_true_eq_false, not_false_eq_true, li_0, li_1, li_2, li_3, li_4, li_5, li_6, li_7, li_8, li_9, li_10, li_12, li_15, li_16, li_20, li_30, li_34, li_38, li_40, li_63, li_64, li_65, li_78, li_120, li_1000, li_4000, li_10000, li_11077, li_255, li_65535, li_m1, li_m2, li_m1000000001, li_m1000000002, li_m1000000003, li_m1000000004, li_m1000000005, li_m1000000006, li_m1000000007, or_true, true_or, or_false, false_or, implies_true, true_implies, false_implies] <;> omega)), (by first | omega | decide | (simp only [fa_lt, fa_le, fa_eq, and_true, true_and, and_false, false_and, not_true_eq_false, not_false_eq_true, li_0, li_1, li_2, li_3, li_4, li_5, li_6, li_7, li_8, li_9, li_10, li_12, li_15, li_16, li_20, li_30, li_34, li_38, li_40, li_63, li_64, li_65, li_78, li_120, li_1000, li_4000, li_10000, li_11077, li_255, li_65535, li_m1, li_m2, li_m1000000001, li_m1000000002, li_m1000000003, li_m1000000004, li_m1000000005, li_m1000000006, li_m1000000007, or_true, true_or, or_false, false_or, implies_true, true_implies, false_implies] <;> omega)), by rw [ht]; exact hP9, va_K.moved hW.alike hK9, hD9⟩, hS.F ht⟩) hS.2.2 dX9_next_245
          · skip
            have tc_12 : ¬ r_11.toInt = 0 := fun h => c_12 ((fa_eq _ _).mpr h)
            refine lv_aload_n hx hb dX9_next_198 rfl (lv_at hl 1 rfl) ?_
            refine lv_iconst (v := 4) hx hb dX9_next_199 (by decide) ?_
            refine va_put (D := (dC, dI)) (ci := 7) (v := .int 4) (ty := .int) (C := RX9) (T := TX9) (N := 28) hx hb hts inX9 tyX9 tyX9_ok nmX9 hown hK hP hD hS 0 rfl rfl 14 (by decide) (hts _ (List.mem_of_getElem? (i := 17) rfl)) (fun _ h9 => h9) rfl (by decide +kernel) rfl rfl (Nat.le_of_ble_eq_true rfl) dX9_next_200 (fun H locs hP hD hS => ?_)
            have hP : va_P (dC, dI) vwCl [(h0, .inr (7, [v0, v1, v2, v3, v4, v5, v6, v7, v8, v9, .ref e0, .int ts, .int y3, .int y3, .int 4, .int 0, v16, v17, v18, v19, v20, v21, v22, v23, v24, v25, v26, v27])), (e0, .inl (ec, 120, .inl ef))] H := hP
            have hD : va_D A [(h0, .inr (7, [v0, v1, v2, v3, v4, v5, v6, v7, v8, v9, .ref e0, .int ts, .int y3, .int y3, .int 4, .int 0, v16, v17, v18, v19, v20, v21, v22, v23, v24, v25, v26, v27])), (e0, .inl (ec, 120, .inl ef))] := hD
            refine pp_loop (ι := Int32) (fun y4 => (ts.toInt - y4.toInt).toNat) (fun y4 H locs ls => (y3.toInt ≤ y4.toInt ∧ y4.toInt ≤ ts.toInt) ∧ va_P (dC, dI) vwCl [(h0, .inr (7, [v0, v1, v2, v3, v4, v5, v6, v7, v8, v9, .ref e0, .int ts, .int y3, .int y4, .int 4, .int 0, v16, v17, v18, v19, v20, v21, v22, v23, v24, v25, v26, v27])), (e0, .inl (ec, 120, .inl ef))] H ∧ va_D A [(h0, .inr (7, [v0, v1, v2, v3, v4, v5, v6, v7, v8, v9, .ref e0, .int ts, .int y3, .int y4, .int 4, .int 0, v16, v17, v18, v19, v20, v21, v22, v23, v24, v25, v26, v27])), (e0, .inl (ec, 120, .inl ef))] ∧ va_S A s.heap H locs ∧ lv_has ls 2 [(1, .int r_4), (0, .ref h0)]) ?_ y3 _ _ _ ⟨(by first | omega | decide | (simp only [fa_lt, fa_le, fa_eq, and_true, true_and, and_false, false_and, not_true_eq_false, not_false_eq_true, li_0, li_1, li_2, li_3, li_4, li_5, li_6, li_7, li_8, li_9, li_10, li_12, li_15, li_16, li_20, li_30, li_34, li_38, li_40, li_63, li_64, li_65, li_78, li_120, li_1000, li_4000, li_10000, li_11077, li_255, li_65535, li_m1, li_m2, li_m1000000001, li_m1000000002, li_m1000000003, li_m1000000004, li_m1000000005, li_m1000000006, li_m1000000007, or_true, true_or, or_false, false_or, implies_true, true_implies, false_implies] <;> omega)), hP.sub [0, 1] rfl, hD.sub [0, 1] (by decide) rfl, hS, lv_sub hl [0, 1] rfl⟩
            intro k_14 ihk_14 u H locs ls hm hI
            obtain ⟨y4, rfl⟩ : ∃ z, z = u := ⟨_, rfl⟩
            obtain ⟨jk_14_0, hP, hD, hS, hl⟩ := hI
            have hmk_14 : (ts.toInt - y4.toInt).toNat < k_14 + 1 := hm
            clear hm
            have jk_14_0 : y3.toInt ≤ y4.toInt ∧ y4.toInt ≤ ts.toInt := jk_14_0
            have hl : lv_has ls 2 [(1, .int r_4), (0, .ref h0)] := hl
            have hP : va_P (dC, dI) vwCl [(h0, .inr (7, [v0, v1, v2, v3, v4, v5, v6, v7, v8, v9, .ref e0, .int ts, .int y3, .int y4, .int 4, .int 0, v16, v17, v18, v19, v20, v21, v22, v23, v24, v25, v26, v27])), (e0, .inl (ec, 120, .inl ef))] H := hP
            have hD : va_D A [(h0, .inr (7, [v0, v1, v2, v3, v4, v5, v6, v7, v8, v9, .ref e0, .int ts, .int y3, .int y4, .int 4, .int 0, v16, v17, v18, v19, v20, v21, v22, v23, v24, v25, v26, v27])), (e0, .inl (ec, 120, .inl ef))] := hD
            refine lv_aload_n hx hb dX9_next_203 rfl (lv_at hl 1 rfl) ?_
            refine lv_aload_n hx hb dX9_next_204 rfl (lv_at hl 1 rfl) ?_
            refine va_get (D := (dC, dI)) (ci := 7) (v := .int y4) (C := RX9) (T := TX9) (N := 28) hx hb hts inX9 hown hK hP 0 rfl rfl 13 (by decide) (hts _ (List.mem_of_getElem? (i := 1) rfl)) (fun _ h9 => h9) rfl dX9_next_205 ?_
            have hPc := hP.sub (ws' := [(h0, .inr (7, [v0, v1, v2, v3, v4, v5, v6, v7, v8, v9, .ref e0, .int ts, .int y3, .int y4, .int 4, .int 0, v16, v17, v18, v19, v20, v21, v22, v23, v24, v25, v26, v27])), (e0, .inl (ec, 120, .inl ef))]) [0, 1] rfl
            have hKc := hK.sub (tys' := [(ec, .int)]) [0] rfl
            refine vp_callSi (W.runV (As := [.int y4]) (rest := []) ⟨hx, hb, hml, hown, hts⟩ (m_byteAt l dC dI ad h0 y4 v0 v1 v2 v3 v4 v5 v6 v7 v8 v9 e0 ts (.int y3) (.int y4) (.int 4) (.int 0) v16 v17 v18 v19 v20 v21 v22 v23 v24 v25 v26 v27 ec ef htm (by first | omega | decide | (simp only [fa_lt, fa_le, fa_eq, and_true, true_and, and_false, false_and, not_true_eq_false, not_false_eq_true, li_0, li_1, li_2, li_3, li_4, li_5, li_6, li_7, li_8, li_9, li_10, li_12, li_15, li_16, li_20, li_30, li_34, li_38, li_40, li_63, li_64, li_65, li_78, li_120, li_1000, li_4000, li_10000, li_11077, li_255, li_65535, li_m1, li_m2, li_m1000000001, li_m1000000002, li_m1000000003, li_m1000000004, li_m1000000005, li_m1000000006, li_m1000000007, or_true, true_or, or_false, false_or, implies_true, true_implies, false_implies] <;> omega))) (cwV 1 hts g_m_next_m_byteAt_197 rfl rfl rfl (by decide +kernel) ⟨(Nat.le_of_ble_eq_true rfl), (Nat.le_of_ble_eq_true rfl)⟩) ⟨preS_blind, va_recv hKc hPc (ci := 7) (q0 := 0) rfl rfl, fun U hU hW => ⟨rfl, preS_at hU hW hPc hKc hev⟩⟩ rfl rfl hl.1 rfl (lv_room (Nat.le_of_ble_eq_true rfl)) dX9_next_208 ⟨(Nat.le_of_ble_eq_true rfl), (Nat.le_of_ble_eq_true rfl)⟩) (fun r_15 hw => ?_)
            have hr_15 : (y4.toInt < ts.toInt ∨ r_15.toInt = (-1)) ∧ r_15 = bAt ef ts y4 := hw
            have bs_16 : y4.toInt = y3.toInt → r_15.toInt = r_2.toInt := bA_same hr_15.2 hr_2.2
            have bs_17 : y4.toInt = y3.toInt → r_15.toInt = r_4.toInt := bA_same hr_15.2 hr_4.2
            have hPc := hP.sub (ws' := []) [] rfl
            have hKc := hK.sub (tys' := []) [] rfl
            refine vp_callSi (W.runS (As := [.int r_15]) (rest := []) ⟨hx, hb, hml, hown, hts⟩ (m_isRowSign2 l dC dI ad r_15 ) (va_cwS 1 hts g_m_next_m_isRowSign2_206 rfl rfl rfl (by decide +kernel) ⟨(Nat.le_of_ble_eq_true rfl), (Nat.le_of_ble_eq_true rfl)⟩) ⟨preS_blind, fun U hU hW => ⟨rfl, preS_at hU hW hPc hKc hev⟩⟩ rfl rfl hl.1 rfl (lv_room (Nat.le_of_ble_eq_true rfl)) dX9_next_211 ⟨(Nat.le_of_ble_eq_true rfl), (Nat.le_of_ble_eq_true rfl)⟩) (fun r_18 hw => ?_)
            have hr_18 : r_18.toInt = 0 ∨ (r_18.toInt = 1 ∧ 0 ≤ r_15.toInt) := hw
            refine lv_if_eq (tgt := 245) hx hb dX9_next_214 (by decide) (fun c_19 => ?_) (fun c_19 => ?_)
            · skip
              have tc_19 : r_18.toInt = 0 := (fa_eq _ _).mp c_19
              have hP9 := hP.sub (ws' := [(h0, .inr (7, [v0, v1, v2, v3, v4, v5, v6, v7, v8, v9, .ref e0, .int ts, .int y3, .int y4, .int 4, .int 0, v16, v17, v18, v19, v20, v21, v22, v23, v24, v25, v26, v27])), (e0, .inl (ec, 120, .inl ef))]) [0, 1] rfl
              have hD9 := hD.sub (ws' := [(h0, .inr (7, [v0, v1, v2, v3, v4, v5, v6, v7, v8, v9, .ref e0, .int ts, .int y3, .int y4, .int 4, .int 0, v16, v17, v18, v19, v20, v21, v22, v23, v24, v25, v26, v27])), (e0, .inl (ec, 120, .inl ef))]) [0, 1] (by decide) rfl
              have hK9 := hK.sub (tys' := [(ec, .int)]) [0] rfl
              exact W.vret hx hb hr (fun t ht hW => ⟨⟨(), rfl, trivial, y3, y4, 4, 0, (by first | omega | decide | (simp only [fa_lt, fa_le, fa_eq, and_true, true_and, and_false, false_and, not_true_eq_false, not_false_eq_true, li_0, li_1, li_2, li_3, li_4, li_5, li_6, li_7, li_8, li_9, li_10, li_12, li_15, li_16, li_20, li_30, li_34, li_38, li_40, li_63, li_64, li_65, li_78, li_120, li_1000, li_4000, li_10000, li_11077, li_255, li_65535, li_m1, li_m2, li_m1000000001, li_m1000000002, li_m1000000003, li_m1000000004, li_m1000000005, li_m1000000006, li_m1000000007, or_true, true_or, or_false, false_or, implies_true, true_implies, false_implies] <;> omega)), (by first | omega | decide | (simp only [fa_lt, fa_le, fa_eq, and_true, true_and, and_false, false_and, not_true_eq_false, not_false_eq_true, li_0, li_1, li_2, li_3, li_4, li_5, li_6, li_7, li_8, li_9, li_10, li_12, li_15, li_16, li_20, li_30, li_34, li_38, li_40, li_63, li_64, li_65, li_78, li_120, li_1000, li_4000, li_10000, li_11077, li_255, li_65535, li_m1, li_m2, li_m1000000001, li_m1000000002, li_m1000000003, li_m1000000004, li_m1000000005, li_m1000000006, li_m1000000007, or_true, true_or, or_false, false_or, implies_true, true_implies, false_implies] <;> omega)), (by first | omega | decide | (simp only [fa_lt, fa_le, fa_eq, and_true, true_and, and_false, false_and, not_true_eq_false, not_false_eq_true, li_0, li_1, li_2, li_3, li_4, li_5, li_6, li_7, li_8, li_9, li_10, li_12, li_15, li_16, li_20, li_30, li_34, li_38, li_40, li_63, li_64, li_65, li_78, li_120, li_1000, li_4000, li_10000, li_11077, li_255, li_65535, li_m1, li_m2, li_m1000000001, li_m1000000002, li_m1000000003, li_m1000000004, li_m1000000005, li_m1000000006, li_m1000000007, or_true, true_or, or_false, false_or, implies_true, true_implies, false_implies] <;> omega)), (by first | omega | decide | (simp only [fa_lt, fa_le, fa_eq, and_true, true_and, and_false, false_and, not_true_eq_false, not_false_eq_true, li_0, li_1, li_2, li_3, li_4, li_5, li_6, li_7, li_8, li_9, li_10, li_12, li_15, li_16, li_20, li_30, li_34, li_38, li_40, li_63, li_64, li_65, li_78, li_120, li_1000, li_4000, li_10000, li_11077, li_255, li_65535, li_m1, li_m2, li_m1000000001, li_m1000000002, li_m1000000003, li_m1000000004, li_m1000000005, li_m1000000006, li_m1000000007, or_true, true_or, or_false, false_or, implies_true, true_implies, false_implies] <;> omega)), by rw [ht]; exact hP9, va_K.moved hW.alike hK9, hD9⟩, hS.F ht⟩) hS.2.2 dX9_next_245
            · skip
              have tc_19 : ¬ r_18.toInt = 0 := fun h => c_19 ((fa_eq _ _).mpr h)
              refine lv_aload_n hx hb dX9_next_217 rfl (lv_at hl 1 rfl) ?_
              refine lv_dup hx hb dX9_next_218 rfl ?_
              refine va_get (D := (dC, dI)) (ci := 7) (v := .int y4) (C := RX9) (T := TX9) (N := 28) hx hb hts inX9 hown hK hP 0 rfl rfl 13 (by decide) (hts _ (List.mem_of_getElem? (i := 1) rfl)) (fun _ h9 => h9) rfl dX9_next_219 ?_
              refine lv_iconst (v := 1) hx hb dX9_next_222 (by decide) ?_
              refine lv_iadd hx hb dX9_next_223 ?_
              refine lv_topi (fun n_20 en_20 => ?_)
              have tn_20 : n_20.toInt = y4.toInt + 1 := pp_add en_20 rfl rfl (by omega) (by omega)
              clear en_20
              refine va_put (D := (dC, dI)) (ci := 7) (v := .int n_20) (ty := .int) (C := RX9) (T := TX9) (N := 28) hx hb hts inX9 tyX9 tyX9_ok nmX9 hown hK hP hD hS 0 rfl rfl 13 (by decide) (hts _ (List.mem_of_getElem? (i := 1) rfl)) (fun _ h9 => h9) rfl (by decide +kernel) rfl rfl (Nat.le_of_ble_eq_true rfl) dX9_next_224 (fun H locs hP hD hS => ?_)
              have hP : va_P (dC, dI) vwCl [(h0, .inr (7, [v0, v1, v2, v3, v4, v5, v6, v7, v8, v9, .ref e0, .int ts, .int y3, .int n_20, .int 4, .int 0, v16, v17, v18, v19, v20, v21, v22, v23, v24, v25, v26, v27])), (e0, .inl (ec, 120, .inl ef))] H := hP
              have hD : va_D A [(h0, .inr (7, [v0, v1, v2, v3, v4, v5, v6, v7, v8, v9, .ref e0, .int ts, .int y3, .int n_20, .int 4, .int 0, v16, v17, v18, v19, v20, v21, v22, v23, v24, v25, v26, v27])), (e0, .inl (ec, 120, .inl ef))] := hD
              refine lv_goto (tgt := 203) hx hb dX9_next_227 (by decide) ?_
              exact ihk_14 n_20 _ _ _ (by show (ts.toInt - n_20.toInt).toNat < k_14; omega) ⟨(by first | omega | decide | (simp only [fa_lt, fa_le, fa_eq, and_true, true_and, and_false, false_and, not_true_eq_false, not_false_eq_true, li_0, li_1, li_2, li_3, li_4, li_5, li_6, li_7, li_8, li_9, li_10, li_12, li_15, li_16, li_20, li_30, li_34, li_38, li_40, li_63, li_64, li_65, li_78, li_120, li_1000, li_4000, li_10000, li_11077, li_255, li_65535, li_m1, li_m2, li_m1000000001, li_m1000000002, li_m1000000003, li_m1000000004, li_m1000000005, li_m1000000006, li_m1000000007, or_true, true_or, or_false, false_or, implies_true, true_implies, false_implies] <;> omega)), hP.sub [0, 1] rfl, hD.sub [0, 1] (by decide) rfl, hS, lv_sub hl [0, 1] rfl⟩
        · skip
          have tc_10 : ¬ r_9.toInt = 0 := fun h => c_10 ((fa_eq _ _).mpr h)
          have i_21 : 48 ≤ r_4.toInt ∧ r_4.toInt ≤ 57 := by omega
          refine lv_aload_n hx hb dX9_next_126 rfl (lv_at hl 1 rfl) ?_
          refine lv_iconst (v := 2) hx hb dX9_next_127 (by decide) ?_
          refine va_put (D := (dC, dI)) (ci := 7) (v := .int 2) (ty := .int) (C := RX9) (T := TX9) (N := 28) hx hb hts inX9 tyX9 tyX9_ok nmX9 hown hK hP hD hS 0 rfl rfl 14 (by decide) (hts _ (List.mem_of_getElem? (i := 17) rfl)) (fun _ h9 => h9) rfl (by decide +kernel) rfl rfl (Nat.le_of_ble_eq_true rfl) dX9_next_128 (fun H locs hP hD hS => ?_)
          have hP : va_P (dC, dI) vwCl [(h0, .inr (7, [v0, v1, v2, v3, v4, v5, v6, v7, v8, v9, .ref e0, .int ts, .int y3, .int y3, .int 2, .int 0, v16, v17, v18, v19, v20, v21, v22, v23, v24, v25, v26, v27])), (e0, .inl (ec, 120, .inl ef))] H := hP
          have hD : va_D A [(h0, .inr (7, [v0, v1, v2, v3, v4, v5, v6, v7, v8, v9, .ref e0, .int ts, .int y3, .int y3, .int 2, .int 0, v16, v17, v18, v19, v20, v21, v22, v23, v24, v25, v26, v27])), (e0, .inl (ec, 120, .inl ef))] := hD
          refine pp_loop (ι := Int32 × Int32) (fun ⟨y4, y5⟩ => (ts.toInt - y4.toInt).toNat) (fun ⟨y4, y5⟩ H locs ls => (y3.toInt ≤ y4.toInt ∧ y4.toInt ≤ ts.toInt) ∧ (0 ≤ y5.toInt ∧ y5.toInt ≤ 10000) ∧ va_P (dC, dI) vwCl [(h0, .inr (7, [v0, v1, v2, v3, v4, v5, v6, v7, v8, v9, .ref e0, .int ts, .int y3, .int y4, .int 2, .int y5, v16, v17, v18, v19, v20, v21, v22, v23, v24, v25, v26, v27])), (e0, .inl (ec, 120, .inl ef))] H ∧ va_D A [(h0, .inr (7, [v0, v1, v2, v3, v4, v5, v6, v7, v8, v9, .ref e0, .int ts, .int y3, .int y4, .int 2, .int y5, v16, v17, v18, v19, v20, v21, v22, v23, v24, v25, v26, v27])), (e0, .inl (ec, 120, .inl ef))] ∧ va_S A s.heap H locs ∧ lv_has ls 2 [(1, .int r_4), (0, .ref h0)]) ?_ (y3, 0) _ _ _ ⟨(by first | omega | decide | (simp only [fa_lt, fa_le, fa_eq, and_true, true_and, and_false, false_and, not_true_eq_false, not_false_eq_true, li_0, li_1, li_2, li_3, li_4, li_5, li_6, li_7, li_8, li_9, li_10, li_12, li_15, li_16, li_20, li_30, li_34, li_38, li_40, li_63, li_64, li_65, li_78, li_120, li_1000, li_4000, li_10000, li_11077, li_255, li_65535, li_m1, li_m2, li_m1000000001, li_m1000000002, li_m1000000003, li_m1000000004, li_m1000000005, li_m1000000006, li_m1000000007, or_true, true_or, or_false, false_or, implies_true, true_implies, false_implies] <;> omega)), (by first | omega | decide | (simp only [fa_lt, fa_le, fa_eq, and_true, true_and, and_false, false_and, not_true_eq_false, not_false_eq_true, li_0, li_1, li_2, li_3, li_4, li_5, li_6, li_7, li_8, li_9, li_10, li_12, li_15, li_16, li_20, li_30, li_34, li_38, li_40, li_63, li_64, li_65, li_78, li_120, li_1000, li_4000, li_10000, li_11077, li_255, li_65535, li_m1, li_m2, li_m1000000001, li_m1000000002, li_m1000000003, li_m1000000004, li_m1000000005, li_m1000000006, li_m1000000007, or_true, true_or, or_false, false_or, implies_true, true_implies, false_implies] <;> omega)), hP.sub [0, 1] rfl, hD.sub [0, 1] (by decide) rfl, hS, lv_sub hl [0, 1] rfl⟩
          intro k_22 ihk_22 u H locs ls hm hI
          obtain ⟨y4, y5⟩ := u
          obtain ⟨jk_22_0, jk_22_1, hP, hD, hS, hl⟩ := hI
          have hmk_22 : (ts.toInt - y4.toInt).toNat < k_22 + 1 := hm
          clear hm
          have jk_22_0 : y3.toInt ≤ y4.toInt ∧ y4.toInt ≤ ts.toInt := jk_22_0
          have jk_22_1 : 0 ≤ y5.toInt ∧ y5.toInt ≤ 10000 := jk_22_1
          have hl : lv_has ls 2 [(1, .int r_4), (0, .ref h0)] := hl
          have hP : va_P (dC, dI) vwCl [(h0, .inr (7, [v0, v1, v2, v3, v4, v5, v6, v7, v8, v9, .ref e0, .int ts, .int y3, .int y4, .int 2, .int y5, v16, v17, v18, v19, v20, v21, v22, v23, v24, v25, v26, v27])), (e0, .inl (ec, 120, .inl ef))] H := hP
          have hD : va_D A [(h0, .inr (7, [v0, v1, v2, v3, v4, v5, v6, v7, v8, v9, .ref e0, .int ts, .int y3, .int y4, .int 2, .int y5, v16, v17, v18, v19, v20, v21, v22, v23, v24, v25, v26, v27])), (e0, .inl (ec, 120, .inl ef))] := hD
          refine lv_aload_n hx hb dX9_next_131 rfl (lv_at hl 1 rfl) ?_
          refine lv_aload_n hx hb dX9_next_132 rfl (lv_at hl 1 rfl) ?_
          refine va_get (D := (dC, dI)) (ci := 7) (v := .int y4) (C := RX9) (T := TX9) (N := 28) hx hb hts inX9 hown hK hP 0 rfl rfl 13 (by decide) (hts _ (List.mem_of_getElem? (i := 1) rfl)) (fun _ h9 => h9) rfl dX9_next_133 ?_
          have hPc := hP.sub (ws' := [(h0, .inr (7, [v0, v1, v2, v3, v4, v5, v6, v7, v8, v9, .ref e0, .int ts, .int y3, .int y4, .int 2, .int y5, v16, v17, v18, v19, v20, v21, v22, v23, v24, v25, v26, v27])), (e0, .inl (ec, 120, .inl ef))]) [0, 1] rfl
          have hKc := hK.sub (tys' := [(ec, .int)]) [0] rfl
          refine vp_callSi (W.runV (As := [.int y4]) (rest := []) ⟨hx, hb, hml, hown, hts⟩ (m_byteAt l dC dI ad h0 y4 v0 v1 v2 v3 v4 v5 v6 v7 v8 v9 e0 ts (.int y3) (.int y4) (.int 2) (.int y5) v16 v17 v18 v19 v20 v21 v22 v23 v24 v25 v26 v27 ec ef htm (by first | omega | decide | (simp only [fa_lt, fa_le, fa_eq, and_true, true_and, and_false, false_and, not_true_eq_false, not_false_eq_true, li_0, li_1, li_2, li_3, li_4, li_5, li_6, li_7, li_8, li_9, li_10, li_12, li_15, li_16, li_20, li_30, li_34, li_38, li_40, li_63, li_64, li_65, li_78, li_120, li_1000, li_4000, li_10000, li_11077, li_255, li_65535, li_m1, li_m2, li_m1000000001, li_m1000000002, li_m1000000003, li_m1000000004, li_m1000000005, li_m1000000006, li_m1000000007, or_true, true_or, or_false, false_or, implies_true, true_implies, false_implies] <;> omega))) (cwV 1 hts g_m_next_m_byteAt_197 rfl rfl rfl (by decide +kernel) ⟨(Nat.le_of_ble_eq_true rfl), (Nat.le_of_ble_eq_true rfl)⟩) ⟨preS_blind, va_recv hKc hPc (ci := 7) (q0 := 0) rfl rfl, fun U hU hW => ⟨rfl, preS_at hU hW hPc hKc hev⟩⟩ rfl rfl hl.1 rfl (lv_room (Nat.le_of_ble_eq_true rfl)) dX9_next_136 ⟨(Nat.le_of_ble_eq_true rfl), (Nat.le_of_ble_eq_true rfl)⟩) (fun r_23 hw => ?_)
          have hr_23 : (y4.toInt < ts.toInt ∨ r_23.toInt = (-1)) ∧ r_23 = bAt ef ts y4 := hw
          have bs_24 : y4.toInt = y3.toInt → r_23.toInt = r_2.toInt := bA_same hr_23.2 hr_2.2
          have bs_25 : y4.toInt = y3.toInt → r_23.toInt = r_4.toInt := bA_same hr_23.2 hr_4.2
          refine lv_bipush (v := 48) hx hb dX9_next_139 (by decide) ?_
          refine lv_bipush (v := 57) hx hb dX9_next_141 (by decide) ?_
          have hPc := hP.sub (ws' := []) [] rfl
          have hKc := hK.sub (tys' := []) [] rfl
          refine vp_callSi (W.runS (As := [.int r_23, .int 48, .int 57]) (rest := []) ⟨hx, hb, hml, hown, hts⟩ (m_within l dC dI ad r_23 48 57 ) (va_cwS 3 hts g_m_next_m_within_75 rfl rfl rfl (by decide +kernel) ⟨(Nat.le_of_ble_eq_true rfl), (Nat.le_of_ble_eq_true rfl)⟩) ⟨preS_blind, fun U hU hW => ⟨rfl, preS_at hU hW hPc hKc hev⟩⟩ rfl rfl hl.1 rfl (lv_room (Nat.le_of_ble_eq_true rfl)) dX9_next_143 ⟨(Nat.le_of_ble_eq_true rfl), (Nat.le_of_ble_eq_true rfl)⟩) (fun r_26 hw => ?_)
          have hr_26 : (r_26.toInt = 1 ∧ 48 ≤ r_23.toInt ∧ r_23.toInt ≤ 57) ∨ (r_26.toInt = 0 ∧ ¬ (48 ≤ r_23.toInt ∧ r_23.toInt ≤ 57)) := hw
          refine lv_if_eq (tgt := 245) hx hb dX9_next_146 (by decide) (fun c_27 => ?_) (fun c_27 => ?_)
          · skip
            have tc_27 : r_26.toInt = 0 := (fa_eq _ _).mp c_27
            have hP9 := hP.sub (ws' := [(h0, .inr (7, [v0, v1, v2, v3, v4, v5, v6, v7, v8, v9, .ref e0, .int ts, .int y3, .int y4, .int 2, .int y5, v16, v17, v18, v19, v20, v21, v22, v23, v24, v25, v26, v27])), (e0, .inl (ec, 120, .inl ef))]) [0, 1] rfl
            have hD9 := hD.sub (ws' := [(h0, .inr (7, [v0, v1, v2, v3, v4, v5, v6, v7, v8, v9, .ref e0, .int ts, .int y3, .int y4, .int 2, .int y5, v16, v17, v18, v19, v20, v21, v22, v23, v24, v25, v26, v27])), (e0, .inl (ec, 120, .inl ef))]) [0, 1] (by decide) rfl
            have hK9 := hK.sub (tys' := [(ec, .int)]) [0] rfl
            exact W.vret hx hb hr (fun t ht hW => ⟨⟨(), rfl, trivial, y3, y4, 2, y5, (by first | omega | decide | (simp only [fa_lt, fa_le, fa_eq, and_true, true_and, and_false, false_and, not_true_eq_false, not_false_eq_true, li_0, li_1, li_2, li_3, li_4, li_5, li_6, li_7, li_8, li_9, li_10, li_12, li_15, li_16, li_20, li_30, li_34, li_38, li_40, li_63, li_64, li_65, li_78, li_120, li_1000, li_4000, li_10000, li_11077, li_255, li_65535, li_m1, li_m2, li_m1000000001, li_m1000000002, li_m1000000003, li_m1000000004, li_m1000000005, li_m1000000006, li_m1000000007, or_true, true_or, or_false, false_or, implies_true, true_implies, false_implies] <;> omega)), (by first | omega | decide | (simp only [fa_lt, fa_le, fa_eq, and_true, true_and, and_false, false_and, not_true_eq_false, not_false_eq_true, li_0, li_1, li_2, li_3, li_4, li_5, li_6, li_7, li_8, li_9, li_10, li_12, li_15, li_16, li_20, li_30, li_34, li_38, li_40, li_63, li_64, li_65, li_78, li_120, li_1000, li_4000, li_10000, li_11077, li_255, li_65535, li_m1, li_m2, li_m1000000001, li_m1000000002, li_m1000000003, li_m1000000004, li_m1000000005, li_m1000000006, li_m1000000007, or_true, true_or, or_false, false_or, implies_true, true_implies, false_implies] <;> omega)), (by first | omega | decide | (simp only [fa_lt, fa_le, fa_eq, and_true, true_and, and_false, false_and, not_true_eq_false, not_false_eq_true, li_0, li_1, li_2, li_3, li_4, li_5, li_6, li_7, li_8, li_9, li_10, li_12, li_15, li_16, li_20, li_30, li_34, li_38, li_40, li_63, li_64, li_65, li_78, li_120, li_1000, li_4000, li_10000, li_11077, li_255, li_65535, li_m1, li_m2, li_m1000000001, li_m1000000002, li_m1000000003, li_m1000000004, li_m1000000005, li_m1000000006, li_m1000000007, or_true, true_or, or_false, false_or, implies_true, true_implies, false_implies] <;> omega)), (by first | omega | decide | (simp only [fa_lt, fa_le, fa_eq, and_true, true_and, and_false, false_and, not_true_eq_false, not_false_eq_true, li_0, li_1, li_2, li_3, li_4, li_5, li_6, li_7, li_8, li_9, li_10, li_12, li_15, li_16, li_20, li_30, li_34, li_38, li_40, li_63, li_64, li_65, li_78, li_120, li_1000, li_4000, li_10000, li_11077, li_255, li_65535, li_m1, li_m2, li_m1000000001, li_m1000000002, li_m1000000003, li_m1000000004, li_m1000000005, li_m1000000006, li_m1000000007, or_true, true_or, or_false, false_or, implies_true, true_implies, false_implies] <;> omega)), by rw [ht]; exact hP9, va_K.moved hW.alike hK9, hD9⟩, hS.F ht⟩) hS.2.2 dX9_next_245
          · skip
            have tc_27 : ¬ r_26.toInt = 0 := fun h => c_27 ((fa_eq _ _).mpr h)
            have i_28 : 48 ≤ r_23.toInt ∧ r_23.toInt ≤ 57 := by omega
            refine lv_aload_n hx hb dX9_next_149 rfl (lv_at hl 1 rfl) ?_
            refine lv_sipush (v := 10000) hx hb dX9_next_150 (by decide) ?_
            refine lv_bipush (v := 10) hx hb dX9_next_153 (by decide) ?_
            refine lv_aload_n hx hb dX9_next_155 rfl (lv_at hl 1 rfl) ?_
            refine va_get (D := (dC, dI)) (ci := 7) (v := .int y5) (C := RX9) (T := TX9) (N := 28) hx hb hts inX9 hown hK hP 0 rfl rfl 15 (by decide) (hts _ (List.mem_of_getElem? (i := 10) rfl)) (fun _ h9 => h9) rfl dX9_next_156 ?_
            refine lv_imul hx hb dX9_next_159 ?_
            refine lv_topi (fun n_29 en_29 => ?_)
            have tn_29 : n_29.toInt = 10 * y5.toInt := pp_mul en_29 rfl rfl (by omega) (by omega)
            clear en_29
            refine lv_aload_n hx hb dX9_next_160 rfl (lv_at hl 1 rfl) ?_
            refine lv_aload_n hx hb dX9_next_161 rfl (lv_at hl 1 rfl) ?_
            refine va_get (D := (dC, dI)) (ci := 7) (v := .int y4) (C := RX9) (T := TX9) (N := 28) hx hb hts inX9 hown hK hP 0 rfl rfl 13 (by decide) (hts _ (List.mem_of_getElem? (i := 1) rfl)) (fun _ h9 => h9) rfl dX9_next_162 ?_
            have hPc := hP.sub (ws' := [(h0, .inr (7, [v0, v1, v2, v3, v4, v5, v6, v7, v8, v9, .ref e0, .int ts, .int y3, .int y4, .int 2, .int y5, v16, v17, v18, v19, v20, v21, v22, v23, v24, v25, v26, v27])), (e0, .inl (ec, 120, .inl ef))]) [0, 1] rfl
            have hKc := hK.sub (tys' := [(ec, .int)]) [0] rfl
            refine vp_callSi (W.runV (As := [.int y4]) (rest := [.int n_29, .int 10000, .ref h0]) ⟨hx, hb, hml, hown, hts⟩ (m_byteAt l dC dI ad h0 y4 v0 v1 v2 v3 v4 v5 v6 v7 v8 v9 e0 ts (.int y3) (.int y4) (.int 2) (.int y5) v16 v17 v18 v19 v20 v21 v22 v23 v24 v25 v26 v27 ec ef htm (by first | omega | decide | (simp only [fa_lt, fa_le, fa_eq, and_true, true_and, and_false, false_and, not_true_eq_false, not_false_eq_true, li_0, li_1, li_2, li_3, li_4, li_5, li_6, li_7, li_8, li_9, li_10, li_12, li_15, li_16, li_20, li_30, li_34, li_38, li_40, li_63, li_64, li_65, li_78, li_120, li_1000, li_4000, li_10000, li_11077, li_255, li_65535, li_m1, li_m2, li_m1000000001, li_m1000000002, li_m1000000003, li_m1000000004, li_m1000000005, li_m1000000006, li_m1000000007, or_true, true_or, or_false, false_or, implies_true, true_implies, false_implies] <;> omega))) (cwV 1 hts g_m_next_m_byteAt_197 rfl rfl rfl (by decide +kernel) ⟨(Nat.le_of_ble_eq_true rfl), (Nat.le_of_ble_eq_true rfl)⟩) ⟨preS_blind, va_recv hKc hPc (ci := 7) (q0 := 0) rfl rfl, fun U hU hW => ⟨rfl, preS_at hU hW hPc hKc hev⟩⟩ rfl rfl hl.1 rfl (lv_room (Nat.le_of_ble_eq_true rfl)) dX9_next_165 ⟨(Nat.le_of_ble_eq_true rfl), (Nat.le_of_ble_eq_true rfl)⟩) (fun r_30 hw => ?_)
            have hr_30 : (y4.toInt < ts.toInt ∨ r_30.toInt = (-1)) ∧ r_30 = bAt ef ts y4 := hw
            have bs_31 : y4.toInt = y3.toInt → r_30.toInt = r_2.toInt := bA_same hr_30.2 hr_2.2
            have bs_32 : y4.toInt = y3.toInt → r_30.toInt = r_4.toInt := bA_same hr_30.2 hr_4.2
            have bs_33 : r_30.toInt = r_23.toInt := bA_same hr_30.2 hr_23.2 rfl
            refine lv_iadd hx hb dX9_next_168 ?_
            refine lv_topi (fun n_34 en_34 => ?_)
            have tn_34 : n_34.toInt = n_29.toInt + r_30.toInt := pp_add en_34 rfl rfl (by omega) (by omega)
            clear en_34
            refine lv_bipush (v := 48) hx hb dX9_next_169 (by decide) ?_
            refine lv_isub hx hb dX9_next_171 ?_
            refine lv_topi (fun n_35 en_35 => ?_)
            have tn_35 : n_35.toInt = n_34.toInt - 48 := pp_sub en_35 rfl rfl (by omega) (by omega)
            clear en_35
            refine va_mmin hx hb (by rw [hml]; exact hl.1.symm) hown (hts _ (List.mem_of_getElem? (i := 18) rfl)) (hts _ (List.mem_of_getElem? (i := 19) rfl)) (hts _ (List.mem_of_getElem? (i := 20) rfl)) (hts _ (List.mem_of_getElem? (i := 21) rfl)) (Nat.le_of_ble_eq_true rfl) (Nat.le_of_ble_eq_true rfl) (Nat.le_of_ble_eq_true rfl) (Nat.le_of_ble_eq_true rfl) dX9_next_172 ?_
            refine lv_topi (fun n_36 en_36 => ?_)
            have tn_36 : n_36.toInt ≤ 10000 ∧ n_36.toInt ≤ n_35.toInt ∧ (n_36.toInt = 10000 ∨ n_36.toInt = n_35.toInt) := pp_min en_36
            refine va_put (D := (dC, dI)) (ci := 7) (v := .int n_36) (ty := .int) (C := RX9) (T := TX9) (N := 28) hx hb hts inX9 tyX9 tyX9_ok nmX9 hown hK hP hD hS 0 rfl rfl 15 (by decide) (hts _ (List.mem_of_getElem? (i := 10) rfl)) (fun _ h9 => h9) rfl (by decide +kernel) rfl rfl (Nat.le_of_ble_eq_true rfl) dX9_next_175 (fun H locs hP hD hS => ?_)
            have hP : va_P (dC, dI) vwCl [(h0, .inr (7, [v0, v1, v2, v3, v4, v5, v6, v7, v8, v9, .ref e0, .int ts, .int y3, .int y4, .int 2, .int n_36, v16, v17, v18, v19, v20, v21, v22, v23, v24, v25, v26, v27])), (e0, .inl (ec, 120, .inl ef))] H := hP
            have hD : va_D A [(h0, .inr (7, [v0, v1, v2, v3, v4, v5, v6, v7, v8, v9, .ref e0, .int ts, .int y3, .int y4, .int 2, .int n_36, v16, v17, v18, v19, v20, v21, v22, v23, v24, v25, v26, v27])), (e0, .inl (ec, 120, .inl ef))] := hD
            refine lv_aload_n hx hb dX9_next_178 rfl (lv_at hl 1 rfl) ?_
            refine lv_dup hx hb dX9_next_179 rfl ?_
            refine va_get (D := (dC, dI)) (ci := 7) (v := .int y4) (C := RX9) (T := TX9) (N := 28) hx hb hts inX9 hown hK hP 0 rfl rfl 13 (by decide) (hts _ (List.mem_of_getElem? (i := 1) rfl)) (fun _ h9 => h9) rfl dX9_next_180 ?_
            refine lv_iconst (v := 1) hx hb dX9_next_183 (by decide) ?_
            refine lv_iadd hx hb dX9_next_184 ?_
            refine lv_topi (fun n_37 en_37 => ?_)
            have tn_37 : n_37.toInt = y4.toInt + 1 := pp_add en_37 rfl rfl (by omega) (by omega)
            clear en_37
            refine va_put (D := (dC, dI)) (ci := 7) (v := .int n_37) (ty := .int) (C := RX9) (T := TX9) (N := 28) hx hb hts inX9 tyX9 tyX9_ok nmX9 hown hK hP hD hS 0 rfl rfl 13 (by decide) (hts _ (List.mem_of_getElem? (i := 1) rfl)) (fun _ h9 => h9) rfl (by decide +kernel) rfl rfl (Nat.le_of_ble_eq_true rfl) dX9_next_185 (fun H locs hP hD hS => ?_)
            have hP : va_P (dC, dI) vwCl [(h0, .inr (7, [v0, v1, v2, v3, v4, v5, v6, v7, v8, v9, .ref e0, .int ts, .int y3, .int n_37, .int 2, .int n_36, v16, v17, v18, v19, v20, v21, v22, v23, v24, v25, v26, v27])), (e0, .inl (ec, 120, .inl ef))] H := hP
            have hD : va_D A [(h0, .inr (7, [v0, v1, v2, v3, v4, v5, v6, v7, v8, v9, .ref e0, .int ts, .int y3, .int n_37, .int 2, .int n_36, v16, v17, v18, v19, v20, v21, v22, v23, v24, v25, v26, v27])), (e0, .inl (ec, 120, .inl ef))] := hD
            refine lv_goto (tgt := 131) hx hb dX9_next_188 (by decide) ?_
            exact ihk_22 (n_37, n_36) _ _ _ (by show (ts.toInt - n_37.toInt).toNat < k_22; omega) ⟨(by first | omega | decide | (simp only [fa_lt, fa_le, fa_eq, and_true, true_and, and_false, false_and, not_true_eq_false, not_false_eq_true, li_0, li_1, li_2, li_3, li_4, li_5, li_6, li_7, li_8, li_9, li_10, li_12, li_15, li_16, li_20, li_30, li_34, li_38, li_40, li_63, li_64, li_65, li_78, li_120, li_1000, li_4000, li_10000, li_11077, li_255, li_65535, li_m1, li_m2, li_m1000000001, li_m1000000002, li_m1000000003, li_m1000000004, li_m1000000005, li_m1000000006, li_m1000000007, or_true, true_or, or_false, false_or, implies_true, true_implies, false_implies] <;> omega)), (by first | omega | decide | (simp only [fa_lt, fa_le, fa_eq, and_true, true_and, and_false, false_and, not_true_eq_false, not_false_eq_true, li_0, li_1, li_2, li_3, li_4, li_5, li_6, li_7, li_8, li_9, li_10, li_12, li_15, li_16, li_20, li_30, li_34, li_38, li_40, li_63, li_64, li_65, li_78, li_120, li_1000, li_4000, li_10000, li_11077, li_255, li_65535, li_m1, li_m2, li_m1000000001, li_m1000000002, li_m1000000003, li_m1000000004, li_m1000000005, li_m1000000006, li_m1000000007, or_true, true_or, or_false, false_or, implies_true, true_implies, false_implies] <;> omega)), hP.sub [0, 1] rfl, hD.sub [0, 1] (by decide) rfl, hS, lv_sub hl [0, 1] rfl⟩
      · skip
        have tc_8 : ¬ r_7.toInt = 0 := fun h => c_8 ((fa_eq _ _).mpr h)
        have i_38 : 97 ≤ r_4.toInt ∧ r_4.toInt ≤ 122 := by omega
        refine lv_aload_n hx hb dX9_next_79 rfl (lv_at hl 1 rfl) ?_
        refine lv_iconst (v := 1) hx hb dX9_next_80 (by decide) ?_
        refine va_put (D := (dC, dI)) (ci := 7) (v := .int 1) (ty := .int) (C := RX9) (T := TX9) (N := 28) hx hb hts inX9 tyX9 tyX9_ok nmX9 hown hK hP hD hS 0 rfl rfl 14 (by decide) (hts _ (List.mem_of_getElem? (i := 17) rfl)) (fun _ h9 => h9) rfl (by decide +kernel) rfl rfl (Nat.le_of_ble_eq_true rfl) dX9_next_81 (fun H locs hP hD hS => ?_)
        have hP : va_P (dC, dI) vwCl [(h0, .inr (7, [v0, v1, v2, v3, v4, v5, v6, v7, v8, v9, .ref e0, .int ts, .int y3, .int y3, .int 1, .int 0, v16, v17, v18, v19, v20, v21, v22, v23, v24, v25, v26, v27])), (e0, .inl (ec, 120, .inl ef))] H := hP
        have hD : va_D A [(h0, .inr (7, [v0, v1, v2, v3, v4, v5, v6, v7, v8, v9, .ref e0, .int ts, .int y3, .int y3, .int 1, .int 0, v16, v17, v18, v19, v20, v21, v22, v23, v24, v25, v26, v27])), (e0, .inl (ec, 120, .inl ef))] := hD
        refine pp_loop (ι := Int32) (fun y4 => (ts.toInt - y4.toInt).toNat) (fun y4 H locs ls => (y3.toInt ≤ y4.toInt ∧ y4.toInt ≤ ts.toInt) ∧ va_P (dC, dI) vwCl [(h0, .inr (7, [v0, v1, v2, v3, v4, v5, v6, v7, v8, v9, .ref e0, .int ts, .int y3, .int y4, .int 1, .int 0, v16, v17, v18, v19, v20, v21, v22, v23, v24, v25, v26, v27])), (e0, .inl (ec, 120, .inl ef))] H ∧ va_D A [(h0, .inr (7, [v0, v1, v2, v3, v4, v5, v6, v7, v8, v9, .ref e0, .int ts, .int y3, .int y4, .int 1, .int 0, v16, v17, v18, v19, v20, v21, v22, v23, v24, v25, v26, v27])), (e0, .inl (ec, 120, .inl ef))] ∧ va_S A s.heap H locs ∧ lv_has ls 2 [(1, .int r_4), (0, .ref h0)]) ?_ y3 _ _ _ ⟨(by first | omega | decide | (simp only [fa_lt, fa_le, fa_eq, and_true, true_and, and_false, false_and, not_true_eq_false, not_false_eq_true, li_0, li_1, li_2, li_3, li_4, li_5, li_6, li_7, li_8, li_9, li_10, li_12, li_15, li_16, li_20, li_30, li_34, li_38, li_40, li_63, li_64, li_65, li_78, li_120, li_1000, li_4000, li_10000, li_11077, li_255, li_65535, li_m1, li_m2, li_m1000000001, li_m1000000002, li_m1000000003, li_m1000000004, li_m1000000005, li_m1000000006, li_m1000000007, or_true, true_or, or_false, false_or, implies_true, true_implies, false_implies] <;> omega)), hP.sub [0, 1] rfl, hD.sub [0, 1] (by decide) rfl, hS, lv_sub hl [0, 1] rfl⟩
        intro k_39 ihk_39 u H locs ls hm hI
        obtain ⟨y4, rfl⟩ : ∃ z, z = u := ⟨_, rfl⟩
        obtain ⟨jk_39_0, hP, hD, hS, hl⟩ := hI
        have hmk_39 : (ts.toInt - y4.toInt).toNat < k_39 + 1 := hm
        clear hm
        have jk_39_0 : y3.toInt ≤ y4.toInt ∧ y4.toInt ≤ ts.toInt := jk_39_0
        have hl : lv_has ls 2 [(1, .int r_4), (0, .ref h0)] := hl
        have hP : va_P (dC, dI) vwCl [(h0, .inr (7, [v0, v1, v2, v3, v4, v5, v6, v7, v8, v9, .ref e0, .int ts, .int y3, .int y4, .int 1, .int 0, v16, v17, v18, v19, v20, v21, v22, v23, v24, v25, v26, v27])), (e0, .inl (ec, 120, .inl ef))] H := hP
        have hD : va_D A [(h0, .inr (7, [v0, v1, v2, v3, v4, v5, v6, v7, v8, v9, .ref e0, .int ts, .int y3, .int y4, .int 1, .int 0, v16, v17, v18, v19, v20, v21, v22, v23, v24, v25, v26, v27])), (e0, .inl (ec, 120, .inl ef))] := hD
        refine lv_aload_n hx hb dX9_next_84 rfl (lv_at hl 1 rfl) ?_
        refine lv_aload_n hx hb dX9_next_85 rfl (lv_at hl 1 rfl) ?_
        refine va_get (D := (dC, dI)) (ci := 7) (v := .int y4) (C := RX9) (T := TX9) (N := 28) hx hb hts inX9 hown hK hP 0 rfl rfl 13 (by decide) (hts _ (List.mem_of_getElem? (i := 1) rfl)) (fun _ h9 => h9) rfl dX9_next_86 ?_
        have hPc := hP.sub (ws' := [(h0, .inr (7, [v0, v1, v2, v3, v4, v5, v6, v7, v8, v9, .ref e0, .int ts, .int y3, .int y4, .int 1, .int 0, v16, v17, v18, v19, v20, v21, v22, v23, v24, v25, v26, v27])), (e0, .inl (ec, 120, .inl ef))]) [0, 1] rfl
        have hKc := hK.sub (tys' := [(ec, .int)]) [0] rfl
        refine vp_callSi (W.runV (As := [.int y4]) (rest := []) ⟨hx, hb, hml, hown, hts⟩ (m_byteAt l dC dI ad h0 y4 v0 v1 v2 v3 v4 v5 v6 v7 v8 v9 e0 ts (.int y3) (.int y4) (.int 1) (.int 0) v16 v17 v18 v19 v20 v21 v22 v23 v24 v25 v26 v27 ec ef htm (by first | omega | decide | (simp only [fa_lt, fa_le, fa_eq, and_true, true_and, and_false, false_and, not_true_eq_false, not_false_eq_true, li_0, li_1, li_2, li_3, li_4, li_5, li_6, li_7, li_8, li_9, li_10, li_12, li_15, li_16, li_20, li_30, li_34, li_38, li_40, li_63, li_64, li_65, li_78, li_120, li_1000, li_4000, li_10000, li_11077, li_255, li_65535, li_m1, li_m2, li_m1000000001, li_m1000000002, li_m1000000003, li_m1000000004, li_m1000000005, li_m1000000006, li_m1000000007, or_true, true_or, or_false, false_or, implies_true, true_implies, false_implies] <;> omega))) (cwV 1 hts g_m_next_m_byteAt_197 rfl rfl rfl (by decide +kernel) ⟨(Nat.le_of_ble_eq_true rfl), (Nat.le_of_ble_eq_true rfl)⟩) ⟨preS_blind, va_recv hKc hPc (ci := 7) (q0 := 0) rfl rfl, fun U hU hW => ⟨rfl, preS_at hU hW hPc hKc hev⟩⟩ rfl rfl hl.1 rfl (lv_room (Nat.le_of_ble_eq_true rfl)) dX9_next_89 ⟨(Nat.le_of_ble_eq_true rfl), (Nat.le_of_ble_eq_true rfl)⟩) (fun r_40 hw => ?_)
        have hr_40 : (y4.toInt < ts.toInt ∨ r_40.toInt = (-1)) ∧ r_40 = bAt ef ts y4 := hw
        have bs_41 : y4.toInt = y3.toInt → r_40.toInt = r_2.toInt := bA_same hr_40.2 hr_2.2
        have bs_42 : y4.toInt = y3.toInt → r_40.toInt = r_4.toInt := bA_same hr_40.2 hr_4.2
        refine lv_bipush (v := 97) hx hb dX9_next_92 (by decide) ?_
        refine lv_bipush (v := 122) hx hb dX9_next_94 (by decide) ?_
        have hPc := hP.sub (ws' := []) [] rfl
        have hKc := hK.sub (tys' := []) [] rfl
        refine vp_callSi (W.runS (As := [.int r_40, .int 97, .int 122]) (rest := []) ⟨hx, hb, hml, hown, hts⟩ (m_within l dC dI ad r_40 97 122 ) (va_cwS 3 hts g_m_next_m_within_75 rfl rfl rfl (by decide +kernel) ⟨(Nat.le_of_ble_eq_true rfl), (Nat.le_of_ble_eq_true rfl)⟩) ⟨preS_blind, fun U hU hW => ⟨rfl, preS_at hU hW hPc hKc hev⟩⟩ rfl rfl hl.1 rfl (lv_room (Nat.le_of_ble_eq_true rfl)) dX9_next_96 ⟨(Nat.le_of_ble_eq_true rfl), (Nat.le_of_ble_eq_true rfl)⟩) (fun r_43 hw => ?_)
        have hr_43 : (r_43.toInt = 1 ∧ 97 ≤ r_40.toInt ∧ r_40.toInt ≤ 122) ∨ (r_43.toInt = 0 ∧ ¬ (97 ≤ r_40.toInt ∧ r_40.toInt ≤ 122)) := hw
        refine lv_if_eq (tgt := 245) hx hb dX9_next_99 (by decide) (fun c_44 => ?_) (fun c_44 => ?_)
        · skip
          have tc_44 : r_43.toInt = 0 := (fa_eq _ _).mp c_44
          have hP9 := hP.sub (ws' := [(h0, .inr (7, [v0, v1, v2, v3, v4, v5, v6, v7, v8, v9, .ref e0, .int ts, .int y3, .int y4, .int 1, .int 0, v16, v17, v18, v19, v20, v21, v22, v23, v24, v25, v26, v27])), (e0, .inl (ec, 120, .inl ef))]) [0, 1] rfl
          have hD9 := hD.sub (ws' := [(h0, .inr (7, [v0, v1, v2, v3, v4, v5, v6, v7, v8, v9, .ref e0, .int ts, .int y3, .int y4, .int 1, .int 0, v16, v17, v18, v19, v20, v21, v22, v23, v24, v25, v26, v27])), (e0, .inl (ec, 120, .inl ef))]) [0, 1] (by decide) rfl
          have hK9 := hK.sub (tys' := [(ec, .int)]) [0] rfl
          exact W.vret hx hb hr (fun t ht hW => ⟨⟨(), rfl, trivial, y3, y4, 1, 0, (by first | omega | decide | (simp only [fa_lt, fa_le, fa_eq, and_true, true_and, and_false, false_and, not_true_eq_false, not_false_eq_true, li_0, li_1, li_2, li_3, li_4, li_5, li_6, li_7, li_8, li_9, li_10, li_12, li_15, li_16, li_20, li_30, li_34, li_38, li_40, li_63, li_64, li_65, li_78, li_120, li_1000, li_4000, li_10000, li_11077, li_255, li_65535, li_m1, li_m2, li_m1000000001, li_m1000000002, li_m1000000003, li_m1000000004, li_m1000000005, li_m1000000006, li_m1000000007, or_true, true_or, or_false, false_or, implies_true, true_implies, false_implies] <;> omega)), (by first | omega | decide | (simp only [fa_lt, fa_le, fa_eq, and_true, true_and, and_false, false_and, not_true_eq_false, not_false_eq_true, li_0, li_1, li_2, li_3, li_4, li_5, li_6, li_7, li_8, li_9, li_10, li_12, li_15, li_16, li_20, li_30, li_34, li_38, li_40, li_63, li_64, li_65, li_78, li_120, li_1000, li_4000, li_10000, li_11077, li_255, li_65535, li_m1, li_m2, li_m1000000001, li_m1000000002, li_m1000000003, li_m1000000004, li_m1000000005, li_m1000000006, li_m1000000007, or_true, true_or, or_false, false_or, implies_true, true_implies, false_implies] <;> omega)), (by first | omega | decide | (simp only [fa_lt, fa_le, fa_eq, and_true, true_and, and_false, false_and, not_true_eq_false, not_false_eq_true, li_0, li_1, li_2, li_3, li_4, li_5, li_6, li_7, li_8, li_9, li_10, li_12, li_15, li_16, li_20, li_30, li_34, li_38, li_40, li_63, li_64, li_65, li_78, li_120, li_1000, li_4000, li_10000, li_11077, li_255, li_65535, li_m1, li_m2, li_m1000000001, li_m1000000002, li_m1000000003, li_m1000000004, li_m1000000005, li_m1000000006, li_m1000000007, or_true, true_or, or_false, false_or, implies_true, true_implies, false_implies] <;> omega)), (by first | omega | decide | (simp only [fa_lt, fa_le, fa_eq, and_true, true_and, and_false, false_and, not_true_eq_false, not_false_eq_true, li_0, li_1, li_2, li_3, li_4, li_5, li_6, li_7, li_8, li_9, li_10, li_12, li_15, li_16, li_20, li_30, li_34, li_38, li_40, li_63, li_64, li_65, li_78, li_120, li_1000, li_4000, li_10000, li_11077, li_255, li_65535, li_m1, li_m2, li_m1000000001, li_m1000000002, li_m1000000003, li_m1000000004, li_m1000000005, li_m1000000006, li_m1000000007, or_true, true_or, or_false, false_or, implies_true, true_implies, false_implies] <;> omega)), by rw [ht]; exact hP9, va_K.moved hW.alike hK9, hD9⟩, hS.F ht⟩) hS.2.2 dX9_next_245
        · skip
          have tc_44 : ¬ r_43.toInt = 0 := fun h => c_44 ((fa_eq _ _).mpr h)
          have i_45 : 97 ≤ r_40.toInt ∧ r_40.toInt ≤ 122 := by omega
          refine lv_aload_n hx hb dX9_next_102 rfl (lv_at hl 1 rfl) ?_
          refine lv_dup hx hb dX9_next_103 rfl ?_
          refine va_get (D := (dC, dI)) (ci := 7) (v := .int y4) (C := RX9) (T := TX9) (N := 28) hx hb hts inX9 hown hK hP 0 rfl rfl 13 (by decide) (hts _ (List.mem_of_getElem? (i := 1) rfl)) (fun _ h9 => h9) rfl dX9_next_104 ?_
          refine lv_iconst (v := 1) hx hb dX9_next_107 (by decide) ?_
          refine lv_iadd hx hb dX9_next_108 ?_
          refine lv_topi (fun n_46 en_46 => ?_)
          have tn_46 : n_46.toInt = y4.toInt + 1 := pp_add en_46 rfl rfl (by omega) (by omega)
          clear en_46
          refine va_put (D := (dC, dI)) (ci := 7) (v := .int n_46) (ty := .int) (C := RX9) (T := TX9) (N := 28) hx hb hts inX9 tyX9 tyX9_ok nmX9 hown hK hP hD hS 0 rfl rfl 13 (by decide) (hts _ (List.mem_of_getElem? (i := 1) rfl)) (fun _ h9 => h9) rfl (by decide +kernel) rfl rfl (Nat.le_of_ble_eq_true rfl) dX9_next_109 (fun H locs hP hD hS => ?_)
          have hP : va_P (dC, dI) vwCl [(h0, .inr (7, [v0, v1, v2, v3, v4, v5, v6, v7, v8, v9, .ref e0, .int ts, .int y3, .int n_46, .int 1, .int 0, v16, v17, v18, v19, v20, v21, v22, v23, v24, v25, v26, v27])), (e0, .inl (ec, 120, .inl ef))] H := hP
          have hD : va_D A [(h0, .inr (7, [v0, v1, v2, v3, v4, v5, v6, v7, v8, v9, .ref e0, .int ts, .int y3, .int n_46, .int 1, .int 0, v16, v17, v18, v19, v20, v21, v22, v23, v24, v25, v26, v27])), (e0, .inl (ec, 120, .inl ef))] := hD
          refine lv_goto (tgt := 84) hx hb dX9_next_112 (by decide) ?_
          exact ihk_39 n_46 _ _ _ (by show (ts.toInt - n_46.toInt).toNat < k_39; omega) ⟨(by first | omega | decide | (simp only [fa_lt, fa_le, fa_eq, and_true, true_and, and_false, false_and, not_true_eq_false, not_false_eq_true, li_0, li_1, li_2, li_3, li_4, li_5, li_6, li_7, li_8, li_9, li_10, li_12, li_15, li_16, li_20, li_30, li_34, li_38, li_40, li_63, li_64, li_65, li_78, li_120, li_1000, li_4000, li_10000, li_11077, li_255, li_65535, li_m1, li_m2, li_m1000000001, li_m1000000002, li_m1000000003, li_m1000000004, li_m1000000005, li_m1000000006, li_m1000000007, or_true, true_or, or_false, false_or, implies_true, true_implies, false_implies] <;> omega)), hP.sub [0, 1] rfl, hD.sub [0, 1] (by decide) rfl, hS, lv_sub hl [0, 1] rfl⟩
    · skip
      have tc_6 : ¬ 0 ≤ r_4.toInt := fun h => c_6 ((fa_le _ _).mpr h)
      refine lv_aload_n hx hb dX9_next_60 rfl (lv_at hl 1 rfl) ?_
      refine lv_iconst (v := 0) hx hb dX9_next_61 (by decide) ?_
      refine va_put (D := (dC, dI)) (ci := 7) (v := .int 0) (ty := .int) (C := RX9) (T := TX9) (N := 28) hx hb hts inX9 tyX9 tyX9_ok nmX9 hown hK hP hD hS 0 rfl rfl 14 (by decide) (hts _ (List.mem_of_getElem? (i := 17) rfl)) (fun _ h9 => h9) rfl (by decide +kernel) rfl rfl (Nat.le_of_ble_eq_true rfl) dX9_next_62 (fun H locs hP hD hS => ?_)
      have hP : va_P (dC, dI) vwCl [(h0, .inr (7, [v0, v1, v2, v3, v4, v5, v6, v7, v8, v9, .ref e0, .int ts, .int y3, .int y3, .int 0, .int 0, v16, v17, v18, v19, v20, v21, v22, v23, v24, v25, v26, v27])), (e0, .inl (ec, 120, .inl ef))] H := hP
      have hD : va_D A [(h0, .inr (7, [v0, v1, v2, v3, v4, v5, v6, v7, v8, v9, .ref e0, .int ts, .int y3, .int y3, .int 0, .int 0, v16, v17, v18, v19, v20, v21, v22, v23, v24, v25, v26, v27])), (e0, .inl (ec, 120, .inl ef))] := hD
      refine lv_goto (tgt := 245) hx hb dX9_next_65 (by decide) ?_
      have hP9 := hP.sub (ws' := [(h0, .inr (7, [v0, v1, v2, v3, v4, v5, v6, v7, v8, v9, .ref e0, .int ts, .int y3, .int y3, .int 0, .int 0, v16, v17, v18, v19, v20, v21, v22, v23, v24, v25, v26, v27])), (e0, .inl (ec, 120, .inl ef))]) [0, 1] rfl
      have hD9 := hD.sub (ws' := [(h0, .inr (7, [v0, v1, v2, v3, v4, v5, v6, v7, v8, v9, .ref e0, .int ts, .int y3, .int y3, .int 0, .int 0, v16, v17, v18, v19, v20, v21, v22, v23, v24, v25, v26, v27])), (e0, .inl (ec, 120, .inl ef))]) [0, 1] (by decide) rfl
      have hK9 := hK.sub (tys' := [(ec, .int)]) [0] rfl
      exact W.vret hx hb hr (fun t ht hW => ⟨⟨(), rfl, trivial, y3, y3, 0, 0, (by first | omega | decide | (simp only [fa_lt, fa_le, fa_eq, and_true, true_and, and_false, false_and, not_true_eq_false, not_false_eq_true, li_0, li_1, li_2, li_3, li_4, li_5, li_6, li_7, li_8, li_9, li_10, li_12, li_15, li_16, li_20, li_30, li_34, li_38, li_40, li_63, li_64, li_65, li_78, li_120, li_1000, li_4000, li_10000, li_11077, li_255, li_65535, li_m1, li_m2, li_m1000000001, li_m1000000002, li_m1000000003, li_m1000000004, li_m1000000005, li_m1000000006, li_m1000000007, or_true, true_or, or_false, false_or, implies_true, true_implies, false_implies] <;> omega)), (by first | omega | decide | (simp only [fa_lt, fa_le, fa_eq, and_true, true_and, and_false, false_and, not_true_eq_false, not_false_eq_true, li_0, li_1, li_2, li_3, li_4, li_5, li_6, li_7, li_8, li_9, li_10, li_12, li_15, li_16, li_20, li_30, li_34, li_38, li_40, li_63, li_64, li_65, li_78, li_120, li_1000, li_4000, li_10000, li_11077, li_255, li_65535, li_m1, li_m2, li_m1000000001, li_m1000000002, li_m1000000003, li_m1000000004, li_m1000000005, li_m1000000006, li_m1000000007, or_true, true_or, or_false, false_or, implies_true, true_implies, false_implies] <;> omega)), (by first | omega | decide | (simp only [fa_lt, fa_le, fa_eq, and_true, true_and, and_false, false_and, not_true_eq_false, not_false_eq_true, li_0, li_1, li_2, li_3, li_4, li_5, li_6, li_7, li_8, li_9, li_10, li_12, li_15, li_16, li_20, li_30, li_34, li_38, li_40, li_63, li_64, li_65, li_78, li_120, li_1000, li_4000, li_10000, li_11077, li_255, li_65535, li_m1, li_m2, li_m1000000001, li_m1000000002, li_m1000000003, li_m1000000004, li_m1000000005, li_m1000000006, li_m1000000007, or_true, true_or, or_false, false_or, implies_true, true_implies, false_implies] <;> omega)), (by first | omega | decide | (simp only [fa_lt, fa_le, fa_eq, and_true, true_and, and_false, false_and, not_true_eq_false, not_false_eq_true, li_0, li_1, li_2, li_3, li_4, li_5, li_6, li_7, li_8, li_9, li_10, li_12, li_15, li_16, li_20, li_30, li_34, li_38, li_40, li_63, li_64, li_65, li_78, li_120, li_1000, li_4000, li_10000, li_11077, li_255, li_65535, li_m1, li_m2, li_m1000000001, li_m1000000002, li_m1000000003, li_m1000000004, li_m1000000005, li_m1000000006, li_m1000000007, or_true, true_or, or_false, false_or, implies_true, true_implies, false_implies] <;> omega)), by rw [ht]; exact hP9, va_K.moved hW.alike hK9, hD9⟩, hS.F ht⟩) hS.2.2 dX9_next_245
  · skip
    have tc_3 : r_2.toInt = 32 := (fa_eq _ _).mp c_3
    refine lv_aload_n hx hb dX9_next_21 rfl (lv_at hl 0 rfl) ?_
    refine lv_dup hx hb dX9_next_22 rfl ?_
    refine va_get (D := (dC, dI)) (ci := 7) (v := .int y3) (C := RX9) (T := TX9) (N := 28) hx hb hts inX9 hown hK hP 0 rfl rfl 12 (by decide) (hts _ (List.mem_of_getElem? (i := 2) rfl)) (fun _ h9 => h9) rfl dX9_next_23 ?_
    refine lv_iconst (v := 1) hx hb dX9_next_26 (by decide) ?_
    refine lv_iadd hx hb dX9_next_27 ?_
    refine lv_topi (fun n_47 en_47 => ?_)
    have tn_47 : n_47.toInt = y3.toInt + 1 := pp_add en_47 rfl rfl (by omega) (by omega)
    clear en_47
    refine va_put (D := (dC, dI)) (ci := 7) (v := .int n_47) (ty := .int) (C := RX9) (T := TX9) (N := 28) hx hb hts inX9 tyX9 tyX9_ok nmX9 hown hK hP hD hS 0 rfl rfl 12 (by decide) (hts _ (List.mem_of_getElem? (i := 2) rfl)) (fun _ h9 => h9) rfl (by decide +kernel) rfl rfl (Nat.le_of_ble_eq_true rfl) dX9_next_28 (fun H locs hP hD hS => ?_)
    have hP : va_P (dC, dI) vwCl [(h0, .inr (7, [v0, v1, v2, v3, v4, v5, v6, v7, v8, v9, .ref e0, .int ts, .int n_47, .int en, .int so, .int va, v16, v17, v18, v19, v20, v21, v22, v23, v24, v25, v26, v27])), (e0, .inl (ec, 120, .inl ef))] H := hP
    have hD : va_D A [(h0, .inr (7, [v0, v1, v2, v3, v4, v5, v6, v7, v8, v9, .ref e0, .int ts, .int n_47, .int en, .int so, .int va, v16, v17, v18, v19, v20, v21, v22, v23, v24, v25, v26, v27])), (e0, .inl (ec, 120, .inl ef))] := hD
    refine lv_goto (tgt := 8) hx hb dX9_next_31 (by decide) ?_
    exact ihk_1 n_47 _ _ _ (by show (ts.toInt - n_47.toInt).toNat < k_1; omega) ⟨(by first | omega | decide | (simp only [fa_lt, fa_le, fa_eq, and_true, true_and, and_false, false_and, not_true_eq_false, not_false_eq_true, li_0, li_1, li_2, li_3, li_4, li_5, li_6, li_7, li_8, li_9, li_10, li_12, li_15, li_16, li_20, li_30, li_34, li_38, li_40, li_63, li_64, li_65, li_78, li_120, li_1000, li_4000, li_10000, li_11077, li_255, li_65535, li_m1, li_m2, li_m1000000001, li_m1000000002, li_m1000000003, li_m1000000004, li_m1000000005, li_m1000000006, li_m1000000007, or_true, true_or, or_false, false_or, implies_true, true_implies, false_implies] <;> omega)), (by first | omega | decide | (simp only [fa_lt, fa_le, fa_eq, and_true, true_and, and_false, false_and, not_true_eq_false, not_false_eq_true, li_0, li_1, li_2, li_3, li_4, li_5, li_6, li_7, li_8, li_9, li_10, li_12, li_15, li_16, li_20, li_30, li_34, li_38, li_40, li_63, li_64, li_65, li_78, li_120, li_1000, li_4000, li_10000, li_11077, li_255, li_65535, li_m1, li_m2, li_m1000000001, li_m1000000002, li_m1000000003, li_m1000000004, li_m1000000005, li_m1000000006, li_m1000000007, or_true, true_or, or_false, false_or, implies_true, true_implies, false_implies] <;> omega)), hP.sub [0, 1] rfl, hD.sub [0, 1] (by decide) rfl, hS, lv_sub hl [0] rfl⟩

def w_m_isWord : List Cond := .code yX9_isWord cX9_isWord 4 (some .boolean) :: (([.fieldLink RX9 203 "LampShapesModel" "sort" "I", .methodLink RX9 209 yJ0_length_8abf5, .instanceMethod yJ0_length_8abf5, .selects RJ0 yJ0_length_8abf5 yJ0_length_8abf5, .initialized RJ0, .code yJ0_length_8abf5 cJ0_length_8abf5 1 (some .int), .fieldLink RJ0 9 "java/lang/String" "value" "[B", .methodLink RJ0 335 yJ0_coder_7d493, .instanceMethod yJ0_coder_7d493, .selects RJ0 yJ0_coder_7d493 yJ0_coder_7d493, .code yJ0_coder_7d493 cJ0_coder_7d493 1 (some .byte), .fieldLink RJ0 38 "java/lang/String" "COMPACT_STRINGS" "Z", .fieldLink RJ0 15 "java/lang/String" "coder" "B", .fieldLink RX9 32 "LampShapesModel" "tape" "[I", .fieldLink RX9 194 "LampShapesModel" "begins" "I", .methodLink RX9 213 yJ0_charAt_5068e, .instanceMethod yJ0_charAt_5068e, .selects RJ0 yJ0_charAt_5068e yJ0_charAt_5068e, .code yJ0_charAt_5068e cJ0_charAt_5068e 2 (some .char), .methodLink RJ0 492 yJ0_isLatin1_aae02, .instanceMethod yJ0_isLatin1_aae02, .selects RJ0 yJ0_isLatin1_aae02 yJ0_isLatin1_aae02, .code yJ0_isLatin1_aae02 cJ0_isLatin1_aae02 1 (some .boolean), .methodLink RJ0 495 yJ1_charAt_3b067, .static yJ1_charAt_3b067, .initialized RJ1, .code yJ1_charAt_3b067 cJ1_charAt_3b067 2 (some .char), .methodLink RJ1 9 yJ0_checkIndex_df160, .static yJ0_checkIndex_df160, .code yJ0_checkIndex_df160 cJ0_checkIndex_df160 2 none, .fieldLink RJ0 1053 "jdk/internal/util/Preconditions" "SIOOBE_FORMATTER" "Ljava/util/function/BiFunction;", .methodLink RJ0 1059 yJ3_checkIndex_8e157, .static yJ3_checkIndex_8e157, .initialized RJ3, .code yJ3_checkIndex_8e157 cJ3_checkIndex_8e157 3 (some .int), .methodLink RJ0 498 yJ2_charAt_3b067, .static yJ2_charAt_3b067, .initialized RJ2, .code yJ2_charAt_3b067 cJ2_charAt_3b067 2 (some .char), .methodLink RJ2 67 yJ2_checkIndex_2214a, .static yJ2_checkIndex_2214a, .code yJ2_checkIndex_2214a cJ2_checkIndex_2214a 2 none, .methodLink RJ2 48 yJ2_length_9d52b, .static yJ2_length_9d52b, .code yJ2_length_9d52b cJ2_length_9d52b 1 (some .int), .methodLink RJ2 414 yJ0_checkIndex_df160, .methodLink RJ2 71 yJ2_getChar_3b067, .static yJ2_getChar_3b067, .code yJ2_getChar_3b067 cJ2_getChar_3b067 2 (some .char), .fieldLink RJ2 44 "java/lang/StringUTF16" "$assertionsDisabled" "Z", .fieldLink RJ2 59 "java/lang/StringUTF16" "HI_BYTE_SHIFT" "I", .fieldLink RJ2 63 "java/lang/StringUTF16" "LO_BYTE_SHIFT" "I", .fieldLink RX9 191 "LampShapesModel" "ends" "I"] : List Cond) ++ wsX90)
set_option maxRecDepth 20000 in
theorem g_m_isWord_c_length_209 : GoodIn w_m_isWord (wsV RX9 209 RJ0 yJ0_length_8abf5 w_c_length) := goodIn_r _ [2, 3, 4, 5, 6, 7, 8, 9, 10, 5, 11, 12, 13] rfl (by decide +kernel)
set_option maxRecDepth 20000 in
theorem g_m_isWord_c_charAt_213 : GoodIn w_m_isWord (wsV RX9 213 RJ0 yJ0_charAt_5068e w_c_charAt) := goodIn_r _ [16, 17, 18, 5, 19, 7, 20, 21, 22, 5, 23, 12, 13, 24, 25, 26, 27, 28, 29, 30, 31, 32, 33, 34, 35, 36, 37, 38, 39, 40, 41, 42, 43, 44, 45, 46, 47, 48, 49, 50, 51, 52] rfl (by decide +kernel)
set_option maxHeartbeats 4000000 in
set_option maxRecDepth 100000 in
theorem m_isWord (l : Launch) (dC : Nat → ClassId) (dI : Nat → Nat → Nat) (ad : Nat → Nat) (h0 : Nat) (kk : Nat) (v0 : Value) (v1 : Value) (v2 : Value) (v3 : Value) (v4 : Value) (v5 : Value) (v6 : Value) (v7 : Value) (v8 : Value) (v9 : Value) (e0 : Nat) (ts : Int32) (bg : Int32) (en : Int32) (so : Int32) (va : Int32) (v16 : Value) (v17 : Value) (v18 : Value) (v19 : Value) (v20 : Value) (v21 : Value) (v22 : Value) (v23 : Value) (v24 : Value) (v25 : Value) (v26 : Value) (v27 : Value) (ec : ClassId) (ef : Nat → Int32) (hkk : kk < 26) (htm : 0 ≤ ts.toInt ∧ ts.toInt ≤ 120) (hlx : 0 ≤ bg.toInt ∧ en.toInt ≤ ts.toInt ∧ bg.toInt ≤ en.toInt) : Met l yX9_isWord w_m_isWord ({ frames := 4, cells := 0, slots := 0, locals := 85 } : Room) (va_Pc [.ref h0, .ref (ad kk)] (preST dC dI ad [(ec, .int)] [(h0, .inr (7, [v0, v1, v2, v3, v4, v5, v6, v7, v8, v9, .ref e0, .int ts, .int bg, .int en, .int so, .int va, v16, v17, v18, v19, v20, v21, v22, v23, v24, v25, v26, v27])), (e0, .inl (ec, 120, .inl ef))])) (vp_Si (fun r => r.toInt = 0 ∨ (r.toInt = 1 ∧ so.toInt = 1))) 0 0 (fun _ => False) := by
  refine Met.ofW (cc := cX9_isWord) (maxL := 4) (ret := (some .boolean)) (by decide) rfl ?_
  intro p e s m args below meth c s₁ B hml hv
  obtain ⟨rfl, ⟨hP, hK, hev⟩, hsf⟩ := hv
  have hS : va_S (fun _ => False) s.heap s.heap [] := va_S.rf
  have hx := B.exec
  have hb := B.bytes
  have hr := B.returns
  have hts := atoms_spec (ws := w_m_isWord) B.pre
  have hown : s.vm.findClass RX9 = some m.cls := findClass_of_methodNamed B.named
  have hlocks := B.notSynchronized
  have inX9 : ∀ w ∈ wsX90, w ∈ w_m_isWord := fun w h => List.mem_cons_of_mem _ (List.mem_append_right _ h)
  have hP : va_P (dC, dI) vwCl [(h0, .inr (7, [v0, v1, v2, v3, v4, v5, v6, v7, v8, v9, .ref e0, .int ts, .int bg, .int en, .int so, .int va, v16, v17, v18, v19, v20, v21, v22, v23, v24, v25, v26, v27])), (e0, .inl (ec, 120, .inl ef))] s.heap := hP
  have hl := lv_entry ([.ref h0, .ref (ad kk)]) (n := 4) (Nat.le_of_ble_eq_true rfl)
  rw [lg_entry_eq]
  generalize (lg_sl ([.ref h0, .ref (ad kk)]) ++ List.replicate (4 - (lg_sl ([.ref h0, .ref (ad kk)])).length) Slot.unset).toArray = ls at hl ⊢
  have hl : lv_has ls 4 [(0, .ref h0), (1, .ref (ad kk))] := hl
  have hn8 : s_n kk ≤ 8 := s_n_le kk hkk
  refine lv_aload_n hx hb dX9_isWord_0 rfl (lv_at hl 0 rfl) ?_
  refine va_get (D := (dC, dI)) (ci := 7) (v := .int so) (C := RX9) (T := TX9) (N := 28) hx hb hts inX9 hown hK hP 0 rfl rfl 14 (by decide) (hts _ (List.mem_of_getElem? (i := 1) rfl)) (fun _ h9 => h9) rfl dX9_isWord_1 ?_
  refine lv_iconst (v := 1) hx hb dX9_isWord_4 (by decide) ?_
  refine lv_icmp_ne (tgt := 28) hx hb dX9_isWord_5 (by decide) (fun c_1 => ?_) (fun c_1 => ?_)
  · skip
    have tc_1 : ¬ so.toInt = 1 := fun h => c_1 ((fa_eq _ _).mpr h)
    refine lv_iconst (v := 0) hx hb dX9_isWord_28 (by decide) ?_
    refine lv_istore_n (lv' := [(2, .int 0), (0, .ref h0), (1, .ref (ad kk))]) hx hb dX9_isWord_29 rfl hl (by decide) rfl (fun ls hl => ?_)
    refine lv_iconst (v := 0) hx hb dX9_isWord_30 (by decide) ?_
    refine lv_istore_n (lv' := [(3, .int 0), (2, .int 0), (0, .ref h0), (1, .ref (ad kk))]) hx hb dX9_isWord_31 rfl hl (by decide) rfl (fun ls hl => ?_)
    refine pp_loop (ι := Int32 × Int32) (fun ⟨v3_32, v2_32⟩ => ((s_n kk : Int) - v3_32.toInt).toNat) (fun ⟨v3_32, v2_32⟩ H locs ls => (0 ≤ v3_32.toInt ∧ v3_32.toInt ≤ 8) ∧ (v2_32.toInt = 0 ∨ (v2_32.toInt = 1 ∧ so.toInt = 1 ∧ en.toInt - bg.toInt = (s_n kk : Int))) ∧ H = s.heap ∧ locs = [] ∧ lv_has ls 4 [(3, .int v3_32), (2, .int v2_32), (0, .ref h0), (1, .ref (ad kk))]) ?_ (0, 0) _ _ _ ⟨(by first | omega | decide | (simp only [fa_lt, fa_le, fa_eq, and_true, true_and, and_false, false_and, not_true_eq_false, not_false_eq_true, li_0, li_1, li_2, li_3, li_4, li_5, li_6, li_7, li_8, li_9, li_10, li_12, li_15, li_16, li_20, li_30, li_34, li_38, li_40, li_63, li_64, li_65, li_78, li_120, li_1000, li_4000, li_10000, li_11077, li_255, li_65535, li_m1, li_m2, li_m1000000001, li_m1000000002, li_m1000000003, li_m1000000004, li_m1000000005, li_m1000000006, li_m1000000007, or_true, true_or, or_false, false_or, implies_true, true_implies, false_implies] <;> omega)), (by first | omega | decide | (simp only [fa_lt, fa_le, fa_eq, and_true, true_and, and_false, false_and, not_true_eq_false, not_false_eq_true, li_0, li_1, li_2, li_3, li_4, li_5, li_6, li_7, li_8, li_9, li_10, li_12, li_15, li_16, li_20, li_30, li_34, li_38, li_40, li_63, li_64, li_65, li_78, li_120, li_1000, li_4000, li_10000, li_11077, li_255, li_65535, li_m1, li_m2, li_m1000000001, li_m1000000002, li_m1000000003, li_m1000000004, li_m1000000005, li_m1000000006, li_m1000000007, or_true, true_or, or_false, false_or, implies_true, true_implies, false_implies] <;> omega)), rfl, rfl, lv_sub hl [0, 1, 2, 3] rfl⟩
    intro k_2 ihk_2 u H locs ls hm hI
    obtain ⟨v3_32, v2_32⟩ := u
    obtain ⟨jk_2_0, jk_2_1, rfl, rfl, hl⟩ := hI
    have hmk_2 : ((s_n kk : Int) - v3_32.toInt).toNat < k_2 + 1 := hm
    clear hm
    have jk_2_0 : 0 ≤ v3_32.toInt ∧ v3_32.toInt ≤ 8 := jk_2_0
    have jk_2_1 : v2_32.toInt = 0 ∨ (v2_32.toInt = 1 ∧ so.toInt = 1 ∧ en.toInt - bg.toInt = (s_n kk : Int)) := jk_2_1
    have hl : lv_has ls 4 [(3, .int v3_32), (2, .int v2_32), (0, .ref h0), (1, .ref (ad kk))] := hl
    refine lv_iload_n hx hb dX9_isWord_32 rfl (lv_at hl 0 rfl) ?_
    refine lv_aload_n hx hb dX9_isWord_33 rfl (lv_at hl 3 rfl) ?_
    have hPc := hP.sub (ws' := []) [] rfl
    have hKc := hK.sub (tys' := []) [] rfl
    refine vp_callSi (W.runV (As := []) (rest := [.int v3_32]) ⟨hx, hb, hml, hown, hts⟩ (c_length l dC dI ad kk hkk) (cwV 0 hts g_m_isWord_c_length_209 rfl rfl rfl (by decide +kernel) ⟨(Nat.le_of_ble_eq_true rfl), (Nat.le_of_ble_eq_true rfl)⟩) ⟨preST_blind, sf_recv hsf hS kk hkk, fun U hU hW => ⟨rfl, preS_at hU hW hPc hKc hev, sf_at hsf hS (fun _ h => h.elim) hU hW⟩⟩ rfl rfl hl.1 rfl (lv_room (Nat.le_of_ble_eq_true rfl)) dX9_isWord_34 ⟨(Nat.le_of_ble_eq_true rfl), (Nat.le_of_ble_eq_true rfl)⟩) (fun r_3 hw => ?_)
    have hr_3 : r_3.toInt = (s_n kk : Int) := hw
    have rc_4_x := pp_rng v3_32
    have rc_4_y := pp_rng r_3
    refine lv_icmp_ge (tgt := 75) hx hb dX9_isWord_37 (by decide) (fun c_4 => ?_) (fun c_4 => ?_)
    · skip
      have tc_4 : r_3.toInt ≤ v3_32.toInt := (fa_le _ _).mp c_4
      refine lv_iload_n hx hb dX9_isWord_75 rfl (lv_at hl 1 rfl) ?_
      exact W.zret (v := v2_32) hx hb hr (pp_nb (by omega)) (fun t ht hW => ⟨v2_32, rfl, (by first | omega | decide | (simp only [fa_lt, fa_le, fa_eq, and_true, true_and, and_false, false_and, not_true_eq_false, not_false_eq_true, li_0, li_1, li_2, li_3, li_4, li_5, li_6, li_7, li_8, li_9, li_10, li_12, li_15, li_16, li_20, li_30, li_34, li_38, li_40, li_63, li_64, li_65, li_78, li_120, li_1000, li_4000, li_10000, li_11077, li_255, li_65535, li_m1, li_m2, li_m1000000001, li_m1000000002, li_m1000000003, li_m1000000004, li_m1000000005, li_m1000000006, li_m1000000007, or_true, true_or, or_false, false_or, implies_true, true_implies, false_implies] <;> omega)), ht⟩) (fun _ h => absurd h List.not_mem_nil) dX9_isWord_76
    · skip
      have tc_4 : ¬ r_3.toInt ≤ v3_32.toInt := fun h => c_4 ((fa_le _ _).mpr h)
      refine lv_iload_n hx hb dX9_isWord_40 rfl (lv_at hl 1 rfl) ?_
      refine lv_if_eq (tgt := 75) hx hb dX9_isWord_41 (by decide) (fun c_5 => ?_) (fun c_5 => ?_)
      · skip
        have tc_5 : v2_32.toInt = 0 := (fa_eq _ _).mp c_5
        refine lv_iload_n hx hb dX9_isWord_75 rfl (lv_at hl 1 rfl) ?_
        exact W.zret (v := v2_32) hx hb hr (pp_nb (by omega)) (fun t ht hW => ⟨v2_32, rfl, (by first | omega | decide | (simp only [fa_lt, fa_le, fa_eq, and_true, true_and, and_false, false_and, not_true_eq_false, not_false_eq_true, li_0, li_1, li_2, li_3, li_4, li_5, li_6, li_7, li_8, li_9, li_10, li_12, li_15, li_16, li_20, li_30, li_34, li_38, li_40, li_63, li_64, li_65, li_78, li_120, li_1000, li_4000, li_10000, li_11077, li_255, li_65535, li_m1, li_m2, li_m1000000001, li_m1000000002, li_m1000000003, li_m1000000004, li_m1000000005, li_m1000000006, li_m1000000007, or_true, true_or, or_false, false_or, implies_true, true_implies, false_implies] <;> omega)), ht⟩) (fun _ h => absurd h List.not_mem_nil) dX9_isWord_76
      · skip
        have tc_5 : ¬ v2_32.toInt = 0 := fun h => c_5 ((fa_eq _ _).mpr h)
        refine lv_aload_n hx hb dX9_isWord_44 rfl (lv_at hl 2 rfl) ?_
        refine va_get (D := (dC, dI)) (ci := 7) (v := .ref e0) (C := RX9) (T := TX9) (N := 28) hx hb hts inX9 hown hK hP 0 rfl rfl 10 (by decide) (hts _ (List.mem_of_getElem? (i := 14) rfl)) (fun _ h9 => h9) rfl dX9_isWord_45 ?_
        refine lv_aload_n hx hb dX9_isWord_48 rfl (lv_at hl 2 rfl) ?_
        refine va_get (D := (dC, dI)) (ci := 7) (v := .int bg) (C := RX9) (T := TX9) (N := 28) hx hb hts inX9 hown hK hP 0 rfl rfl 12 (by decide) (hts _ (List.mem_of_getElem? (i := 15) rfl)) (fun _ h9 => h9) rfl dX9_isWord_49 ?_
        refine lv_iload_n hx hb dX9_isWord_52 rfl (lv_at hl 0 rfl) ?_
        refine lv_iadd hx hb dX9_isWord_53 ?_
        refine lv_topi (fun n_6 en_6 => ?_)
        have tn_6 : n_6.toInt = bg.toInt + v3_32.toInt := pp_add en_6 rfl rfl (by omega) (by omega)
        clear en_6
        refine va_iald hx hb hK hP 1 0 rfl rfl (vp_in_iff.mpr ⟨by omega, by omega⟩) dX9_isWord_54 ?_
        refine lv_topi (fun n_7 en_7 => ?_)
        clear en_7
        refine lv_aload_n hx hb dX9_isWord_55 rfl (lv_at hl 3 rfl) ?_
        refine lv_iload_n hx hb dX9_isWord_56 rfl (lv_at hl 0 rfl) ?_
        have hPc := hP.sub (ws' := []) [] rfl
        have hKc := hK.sub (tys' := []) [] rfl
        refine vp_callSi (W.runV (As := [.int v3_32]) (rest := [.int n_7]) ⟨hx, hb, hml, hown, hts⟩ (c_charAt l dC dI ad kk v3_32 hkk (by first | omega | decide | (simp only [fa_lt, fa_le, fa_eq, and_true, true_and, and_false, false_and, not_true_eq_false, not_false_eq_true, li_0, li_1, li_2, li_3, li_4, li_5, li_6, li_7, li_8, li_9, li_10, li_12, li_15, li_16, li_20, li_30, li_34, li_38, li_40, li_63, li_64, li_65, li_78, li_120, li_1000, li_4000, li_10000, li_11077, li_255, li_65535, li_m1, li_m2, li_m1000000001, li_m1000000002, li_m1000000003, li_m1000000004, li_m1000000005, li_m1000000006, li_m1000000007, or_true, true_or, or_false, false_or, implies_true, true_implies, false_implies] <;> omega))) (cwV 1 hts g_m_isWord_c_charAt_213 rfl rfl rfl (by decide +kernel) ⟨(Nat.le_of_ble_eq_true rfl), (Nat.le_of_ble_eq_true rfl)⟩) ⟨preST_blind, sf_recv hsf hS kk hkk, fun U hU hW => ⟨rfl, preS_at hU hW hPc hKc hev, sf_at hsf hS (fun _ h => h.elim) hU hW⟩⟩ rfl rfl hl.1 rfl (lv_room (Nat.le_of_ble_eq_true rfl)) dX9_isWord_57 ⟨(Nat.le_of_ble_eq_true rfl), (Nat.le_of_ble_eq_true rfl)⟩) (fun r_8 hw => ?_)
        have rc_9_x := pp_rng n_7
        have rc_9_y := pp_rng r_8
        refine lv_icmp_ne (tgt := 67) hx hb dX9_isWord_60 (by decide) (fun c_9 => ?_) (fun c_9 => ?_)
        · skip
          have tc_9 : ¬ n_7.toInt = r_8.toInt := fun h => c_9 ((fa_eq _ _).mpr h)
          refine lv_iconst (v := 0) hx hb dX9_isWord_67 (by decide) ?_
          refine lv_istore_n (lv' := [(2, .int 0), (3, .int v3_32), (0, .ref h0), (1, .ref (ad kk))]) hx hb dX9_isWord_68 rfl hl (by decide) rfl (fun ls hl => ?_)
          obtain ⟨n_10, en_10⟩ : ∃ y : Int32, y = v3_32 + 1 := ⟨_, rfl⟩
          have tn_10 : n_10.toInt = v3_32.toInt + 1 := pp_add en_10 rfl rfl (by omega) (by omega)
          refine lv_iinc (v := n_10) (lv' := [(3, .int n_10), (2, .int 0), (0, .ref h0), (1, .ref (ad kk))]) hx hb dX9_isWord_69 hl (k := 1) rfl (by rw [en_10]; rfl) (by decide) rfl (fun ls hl => ?_)
          clear en_10
          refine lv_goto (tgt := 32) hx hb dX9_isWord_72 (by decide) ?_
          exact ihk_2 (n_10, (0 : Int32)) _ _ _ (by show ((s_n kk : Int) - n_10.toInt).toNat < k_2; omega) ⟨(by first | omega | decide | (simp only [fa_lt, fa_le, fa_eq, and_true, true_and, and_false, false_and, not_true_eq_false, not_false_eq_true, li_0, li_1, li_2, li_3, li_4, li_5, li_6, li_7, li_8, li_9, li_10, li_12, li_15, li_16, li_20, li_30, li_34, li_38, li_40, li_63, li_64, li_65, li_78, li_120, li_1000, li_4000, li_10000, li_11077, li_255, li_65535, li_m1, li_m2, li_m1000000001, li_m1000000002, li_m1000000003, li_m1000000004, li_m1000000005, li_m1000000006, li_m1000000007, or_true, true_or, or_false, false_or, implies_true, true_implies, false_implies] <;> omega)), (by first | omega | decide | (simp only [fa_lt, fa_le, fa_eq, and_true, true_and, and_false, false_and, not_true_eq_false, not_false_eq_true, li_0, li_1, li_2, li_3, li_4, li_5, li_6, li_7, li_8, li_9, li_10, li_12, li_15, li_16, li_20, li_30, li_34, li_38, li_40, li_63, li_64, li_65, li_78, li_120, li_1000, li_4000, li_10000, li_11077, li_255, li_65535, li_m1, li_m2, li_m1000000001, li_m1000000002, li_m1000000003, li_m1000000004, li_m1000000005, li_m1000000006, li_m1000000007, or_true, true_or, or_false, false_or, implies_true, true_implies, false_implies] <;> omega)), rfl, rfl, lv_sub hl [0, 1, 2, 3] rfl⟩
        · skip
          have tc_9 : n_7.toInt = r_8.toInt := (fa_eq _ _).mp c_9
          refine lv_iconst (v := 1) hx hb dX9_isWord_63 (by decide) ?_
          refine lv_goto (tgt := 68) hx hb dX9_isWord_64 (by decide) ?_
          refine lv_istore_n (lv' := [(2, .int 1), (3, .int v3_32), (0, .ref h0), (1, .ref (ad kk))]) hx hb dX9_isWord_68 rfl hl (by decide) rfl (fun ls hl => ?_)
          obtain ⟨n_11, en_11⟩ : ∃ y : Int32, y = v3_32 + 1 := ⟨_, rfl⟩
          have tn_11 : n_11.toInt = v3_32.toInt + 1 := pp_add en_11 rfl rfl (by omega) (by omega)
          refine lv_iinc (v := n_11) (lv' := [(3, .int n_11), (2, .int 1), (0, .ref h0), (1, .ref (ad kk))]) hx hb dX9_isWord_69 hl (k := 1) rfl (by rw [en_11]; rfl) (by decide) rfl (fun ls hl => ?_)
          clear en_11
          refine lv_goto (tgt := 32) hx hb dX9_isWord_72 (by decide) ?_
          exact ihk_2 (n_11, (1 : Int32)) _ _ _ (by show ((s_n kk : Int) - n_11.toInt).toNat < k_2; omega) ⟨(by first | omega | decide | (simp only [fa_lt, fa_le, fa_eq, and_true, true_and, and_false, false_and, not_true_eq_false, not_false_eq_true, li_0, li_1, li_2, li_3, li_4, li_5, li_6, li_7, li_8, li_9, li_10, li_12, li_15, li_16, li_20, li_30, li_34, li_38, li_40, li_63, li_64, li_65, li_78, li_120, li_1000, li_4000, li_10000, li_11077, li_255, li_65535, li_m1, li_m2, li_m1000000001, li_m1000000002, li_m1000000003, li_m1000000004, li_m1000000005, li_m1000000006, li_m1000000007, or_true, true_or, or_false, false_or, implies_true, true_implies, false_implies] <;> omega)), (by first | omega | decide | (simp only [fa_lt, fa_le, fa_eq, and_true, true_and, and_false, false_and, not_true_eq_false, not_false_eq_true, li_0, li_1, li_2, li_3, li_4, li_5, li_6, li_7, li_8, li_9, li_10, li_12, li_15, li_16, li_20, li_30, li_34, li_38, li_40, li_63, li_64, li_65, li_78, li_120, li_1000, li_4000, li_10000, li_11077, li_255, li_65535, li_m1, li_m2, li_m1000000001, li_m1000000002, li_m1000000003, li_m1000000004, li_m1000000005, li_m1000000006, li_m1000000007, or_true, true_or, or_false, false_or, implies_true, true_implies, false_implies] <;> omega)), rfl, rfl, lv_sub hl [0, 1, 2, 3] rfl⟩
  · skip
    have tc_1 : so.toInt = 1 := (fa_eq _ _).mp c_1
    refine lv_aload_n hx hb dX9_isWord_8 rfl (lv_at hl 0 rfl) ?_
    refine va_get (D := (dC, dI)) (ci := 7) (v := .int en) (C := RX9) (T := TX9) (N := 28) hx hb hts inX9 hown hK hP 0 rfl rfl 13 (by decide) (hts _ (List.mem_of_getElem? (i := 53) rfl)) (fun _ h9 => h9) rfl dX9_isWord_9 ?_
    refine lv_aload_n hx hb dX9_isWord_12 rfl (lv_at hl 0 rfl) ?_
    refine va_get (D := (dC, dI)) (ci := 7) (v := .int bg) (C := RX9) (T := TX9) (N := 28) hx hb hts inX9 hown hK hP 0 rfl rfl 12 (by decide) (hts _ (List.mem_of_getElem? (i := 15) rfl)) (fun _ h9 => h9) rfl dX9_isWord_13 ?_
    refine lv_isub hx hb dX9_isWord_16 ?_
    refine lv_topi (fun n_12 en_12 => ?_)
    have tn_12 : n_12.toInt = en.toInt - bg.toInt := pp_sub en_12 rfl rfl (by omega) (by omega)
    clear en_12
    refine lv_aload_n hx hb dX9_isWord_17 rfl (lv_at hl 1 rfl) ?_
    have hPc := hP.sub (ws' := []) [] rfl
    have hKc := hK.sub (tys' := []) [] rfl
    refine vp_callSi (W.runV (As := []) (rest := [.int n_12]) ⟨hx, hb, hml, hown, hts⟩ (c_length l dC dI ad kk hkk) (cwV 0 hts g_m_isWord_c_length_209 rfl rfl rfl (by decide +kernel) ⟨(Nat.le_of_ble_eq_true rfl), (Nat.le_of_ble_eq_true rfl)⟩) ⟨preST_blind, sf_recv hsf hS kk hkk, fun U hU hW => ⟨rfl, preS_at hU hW hPc hKc hev, sf_at hsf hS (fun _ h => h.elim) hU hW⟩⟩ rfl rfl hl.1 rfl (lv_room (Nat.le_of_ble_eq_true rfl)) dX9_isWord_18 ⟨(Nat.le_of_ble_eq_true rfl), (Nat.le_of_ble_eq_true rfl)⟩) (fun r_13 hw => ?_)
    have hr_13 : r_13.toInt = (s_n kk : Int) := hw
    have rc_14_x := pp_rng n_12
    have rc_14_y := pp_rng r_13
    refine lv_icmp_ne (tgt := 28) hx hb dX9_isWord_21 (by decide) (fun c_14 => ?_) (fun c_14 => ?_)
    · skip
      have tc_14 : ¬ n_12.toInt = r_13.toInt := fun h => c_14 ((fa_eq _ _).mpr h)
      refine lv_iconst (v := 0) hx hb dX9_isWord_28 (by decide) ?_
      refine lv_istore_n (lv' := [(2, .int 0), (0, .ref h0), (1, .ref (ad kk))]) hx hb dX9_isWord_29 rfl hl (by decide) rfl (fun ls hl => ?_)
      refine lv_iconst (v := 0) hx hb dX9_isWord_30 (by decide) ?_
      refine lv_istore_n (lv' := [(3, .int 0), (2, .int 0), (0, .ref h0), (1, .ref (ad kk))]) hx hb dX9_isWord_31 rfl hl (by decide) rfl (fun ls hl => ?_)
      refine pp_loop (ι := Int32 × Int32) (fun ⟨v3_32, v2_32⟩ => ((s_n kk : Int) - v3_32.toInt).toNat) (fun ⟨v3_32, v2_32⟩ H locs ls => (0 ≤ v3_32.toInt ∧ v3_32.toInt ≤ 8) ∧ (v2_32.toInt = 0 ∨ (v2_32.toInt = 1 ∧ so.toInt = 1 ∧ en.toInt - bg.toInt = (s_n kk : Int))) ∧ H = s.heap ∧ locs = [] ∧ lv_has ls 4 [(3, .int v3_32), (2, .int v2_32), (0, .ref h0), (1, .ref (ad kk))]) ?_ (0, 0) _ _ _ ⟨(by first | omega | decide | (simp only [fa_lt, fa_le, fa_eq, and_true, true_and, and_false, false_and, not_true_eq_false, not_false_eq_true, li_0, li_1, li_2, li_3, li_4, li_5, li_6, li_7, li_8, li_9, li_10, li_12, li_15, li_16, li_20, li_30, li_34, li_38, li_40, li_63, li_64, li_65, li_78, li_120, li_1000, li_4000, li_10000, li_11077, li_255, li_65535, li_m1, li_m2, li_m1000000001, li_m1000000002, li_m1000000003, li_m1000000004, li_m1000000005, li_m1000000006, li_m1000000007, or_true, true_or, or_false, false_or, implies_true, true_implies, false_implies] <;> omega)), (by first | omega | decide | (simp only [fa_lt, fa_le, fa_eq, and_true, true_and, and_false, false_and, not_true_eq_false, not_false_eq_true, li_0, li_1, li_2, li_3, li_4, li_5, li_6, li_7, li_8, li_9, li_10, li_12, li_15, li_16, li_20, li_30, li_34, li_38, li_40, li_63, li_64, li_65, li_78, li_120, li_1000, li_4000, li_10000, li_11077, li_255, li_65535, li_m1, li_m2, li_m1000000001, li_m1000000002, li_m1000000003, li_m1000000004, li_m1000000005, li_m1000000006, li_m1000000007, or_true, true_or, or_false, false_or, implies_true, true_implies, false_implies] <;> omega)), rfl, rfl, lv_sub hl [0, 1, 2, 3] rfl⟩
      intro k_15 ihk_15 u H locs ls hm hI
      obtain ⟨v3_32, v2_32⟩ := u
      obtain ⟨jk_15_0, jk_15_1, rfl, rfl, hl⟩ := hI
      have hmk_15 : ((s_n kk : Int) - v3_32.toInt).toNat < k_15 + 1 := hm
      clear hm
      have jk_15_0 : 0 ≤ v3_32.toInt ∧ v3_32.toInt ≤ 8 := jk_15_0
      have jk_15_1 : v2_32.toInt = 0 ∨ (v2_32.toInt = 1 ∧ so.toInt = 1 ∧ en.toInt - bg.toInt = (s_n kk : Int)) := jk_15_1
      have hl : lv_has ls 4 [(3, .int v3_32), (2, .int v2_32), (0, .ref h0), (1, .ref (ad kk))] := hl
      refine lv_iload_n hx hb dX9_isWord_32 rfl (lv_at hl 0 rfl) ?_
      refine lv_aload_n hx hb dX9_isWord_33 rfl (lv_at hl 3 rfl) ?_
      have hPc := hP.sub (ws' := []) [] rfl
      have hKc := hK.sub (tys' := []) [] rfl
      refine vp_callSi (W.runV (As := []) (rest := [.int v3_32]) ⟨hx, hb, hml, hown, hts⟩ (c_length l dC dI ad kk hkk) (cwV 0 hts g_m_isWord_c_length_209 rfl rfl rfl (by decide +kernel) ⟨(Nat.le_of_ble_eq_true rfl), (Nat.le_of_ble_eq_true rfl)⟩) ⟨preST_blind, sf_recv hsf hS kk hkk, fun U hU hW => ⟨rfl, preS_at hU hW hPc hKc hev, sf_at hsf hS (fun _ h => h.elim) hU hW⟩⟩ rfl rfl hl.1 rfl (lv_room (Nat.le_of_ble_eq_true rfl)) dX9_isWord_34 ⟨(Nat.le_of_ble_eq_true rfl), (Nat.le_of_ble_eq_true rfl)⟩) (fun r_16 hw => ?_)
      have hr_16 : r_16.toInt = (s_n kk : Int) := hw
      have rc_17_x := pp_rng v3_32
      have rc_17_y := pp_rng r_16
      refine lv_icmp_ge (tgt := 75) hx hb dX9_isWord_37 (by decide) (fun c_17 => ?_) (fun c_17 => ?_)
      · skip
        have tc_17 : r_16.toInt ≤ v3_32.toInt := (fa_le _ _).mp c_17
        refine lv_iload_n hx hb dX9_isWord_75 rfl (lv_at hl 1 rfl) ?_
        exact W.zret (v := v2_32) hx hb hr (pp_nb (by omega)) (fun t ht hW => ⟨v2_32, rfl, (by first | omega | decide | (simp only [fa_lt, fa_le, fa_eq, and_true, true_and, and_false, false_and, not_true_eq_false, not_false_eq_true, li_0, li_1, li_2, li_3, li_4, li_5, li_6, li_7, li_8, li_9, li_10, li_12, li_15, li_16, li_20, li_30, li_34, li_38, li_40, li_63, li_64, li_65, li_78, li_120, li_1000, li_4000, li_10000, li_11077, li_255, li_65535, li_m1, li_m2, li_m1000000001, li_m1000000002, li_m1000000003, li_m1000000004, li_m1000000005, li_m1000000006, li_m1000000007, or_true, true_or, or_false, false_or, implies_true, true_implies, false_implies] <;> omega)), ht⟩) (fun _ h => absurd h List.not_mem_nil) dX9_isWord_76
      · skip
        have tc_17 : ¬ r_16.toInt ≤ v3_32.toInt := fun h => c_17 ((fa_le _ _).mpr h)
        refine lv_iload_n hx hb dX9_isWord_40 rfl (lv_at hl 1 rfl) ?_
        refine lv_if_eq (tgt := 75) hx hb dX9_isWord_41 (by decide) (fun c_18 => ?_) (fun c_18 => ?_)
        · skip
          have tc_18 : v2_32.toInt = 0 := (fa_eq _ _).mp c_18
          refine lv_iload_n hx hb dX9_isWord_75 rfl (lv_at hl 1 rfl) ?_
          exact W.zret (v := v2_32) hx hb hr (pp_nb (by omega)) (fun t ht hW => ⟨v2_32, rfl, (by first | omega | decide | (simp only [fa_lt, fa_le, fa_eq, and_true, true_and, and_false, false_and, not_true_eq_false, not_false_eq_true, li_0, li_1, li_2, li_3, li_4, li_5, li_6, li_7, li_8, li_9, li_10, li_12, li_15, li_16, li_20, li_30, li_34, li_38, li_40, li_63, li_64, li_65, li_78, li_120, li_1000, li_4000, li_10000, li_11077, li_255, li_65535, li_m1, li_m2, li_m1000000001, li_m1000000002, li_m1000000003, li_m1000000004, li_m1000000005, li_m1000000006, li_m1000000007, or_true, true_or, or_false, false_or, implies_true, true_implies, false_implies] <;> omega)), ht⟩) (fun _ h => absurd h List.not_mem_nil) dX9_isWord_76
        · skip
          have tc_18 : ¬ v2_32.toInt = 0 := fun h => c_18 ((fa_eq _ _).mpr h)
          refine lv_aload_n hx hb dX9_isWord_44 rfl (lv_at hl 2 rfl) ?_
          refine va_get (D := (dC, dI)) (ci := 7) (v := .ref e0) (C := RX9) (T := TX9) (N := 28) hx hb hts inX9 hown hK hP 0 rfl rfl 10 (by decide) (hts _ (List.mem_of_getElem? (i := 14) rfl)) (fun _ h9 => h9) rfl dX9_isWord_45 ?_
          refine lv_aload_n hx hb dX9_isWord_48 rfl (lv_at hl 2 rfl) ?_
          refine va_get (D := (dC, dI)) (ci := 7) (v := .int bg) (C := RX9) (T := TX9) (N := 28) hx hb hts inX9 hown hK hP 0 rfl rfl 12 (by decide) (hts _ (List.mem_of_getElem? (i := 15) rfl)) (fun _ h9 => h9) rfl dX9_isWord_49 ?_
          refine lv_iload_n hx hb dX9_isWord_52 rfl (lv_at hl 0 rfl) ?_
          refine lv_iadd hx hb dX9_isWord_53 ?_
          refine lv_topi (fun n_19 en_19 => ?_)
          have tn_19 : n_19.toInt = bg.toInt + v3_32.toInt := pp_add en_19 rfl rfl (by omega) (by omega)
          clear en_19
          refine va_iald hx hb hK hP 1 0 rfl rfl (vp_in_iff.mpr ⟨by omega, by omega⟩) dX9_isWord_54 ?_
          refine lv_topi (fun n_20 en_20 => ?_)
          clear en_20
          refine lv_aload_n hx hb dX9_isWord_55 rfl (lv_at hl 3 rfl) ?_
          refine lv_iload_n hx hb dX9_isWord_56 rfl (lv_at hl 0 rfl) ?_
          have hPc := hP.sub (ws' := []) [] rfl
          have hKc := hK.sub (tys' := []) [] rfl
          refine vp_callSi (W.runV (As := [.int v3_32]) (rest := [.int n_20]) ⟨hx, hb, hml, hown, hts⟩ (c_charAt l dC dI ad kk v3_32 hkk (by first | omega | decide | (simp only [fa_lt, fa_le, fa_eq, and_true, true_and, and_false, false_and, not_true_eq_false, not_false_eq_true, li_0, li_1, li_2, li_3, li_4, li_5, li_6, li_7, li_8, li_9, li_10, li_12, li_15, li_16, li_20, li_30, li_34, li_38, li_40, li_63, li_64, li_65, li_78, li_120, li_1000, li_4000, li_10000, li_11077, li_255, li_65535, li_m1, li_m2, li_m1000000001, li_m1000000002, li_m1000000003, li_m1000000004, li_m1000000005, li_m1000000006, li_m1000000007, or_true, true_or, or_false, false_or, implies_true, true_implies, false_implies] <;> omega))) (cwV 1 hts g_m_isWord_c_charAt_213 rfl rfl rfl (by decide +kernel) ⟨(Nat.le_of_ble_eq_true rfl), (Nat.le_of_ble_eq_true rfl)⟩) ⟨preST_blind, sf_recv hsf hS kk hkk, fun U hU hW => ⟨rfl, preS_at hU hW hPc hKc hev, sf_at hsf hS (fun _ h => h.elim) hU hW⟩⟩ rfl rfl hl.1 rfl (lv_room (Nat.le_of_ble_eq_true rfl)) dX9_isWord_57 ⟨(Nat.le_of_ble_eq_true rfl), (Nat.le_of_ble_eq_true rfl)⟩) (fun r_21 hw => ?_)
          have rc_22_x := pp_rng n_20
          have rc_22_y := pp_rng r_21
          refine lv_icmp_ne (tgt := 67) hx hb dX9_isWord_60 (by decide) (fun c_22 => ?_) (fun c_22 => ?_)
          · skip
            have tc_22 : ¬ n_20.toInt = r_21.toInt := fun h => c_22 ((fa_eq _ _).mpr h)
            refine lv_iconst (v := 0) hx hb dX9_isWord_67 (by decide) ?_
            refine lv_istore_n (lv' := [(2, .int 0), (3, .int v3_32), (0, .ref h0), (1, .ref (ad kk))]) hx hb dX9_isWord_68 rfl hl (by decide) rfl (fun ls hl => ?_)
            obtain ⟨n_23, en_23⟩ : ∃ y : Int32, y = v3_32 + 1 := ⟨_, rfl⟩
            have tn_23 : n_23.toInt = v3_32.toInt + 1 := pp_add en_23 rfl rfl (by omega) (by omega)
            refine lv_iinc (v := n_23) (lv' := [(3, .int n_23), (2, .int 0), (0, .ref h0), (1, .ref (ad kk))]) hx hb dX9_isWord_69 hl (k := 1) rfl (by rw [en_23]; rfl) (by decide) rfl (fun ls hl => ?_)
            clear en_23
            refine lv_goto (tgt := 32) hx hb dX9_isWord_72 (by decide) ?_
            exact ihk_15 (n_23, (0 : Int32)) _ _ _ (by show ((s_n kk : Int) - n_23.toInt).toNat < k_15; omega) ⟨(by first | omega | decide | (simp only [fa_lt, fa_le, fa_eq, and_true, true_and, and_false, false_and, not_true_eq_false, not_false_eq_true, li_0, li_1, li_2, li_3, li_4, li_5, li_6, li_7, li_8, li_9, li_10, li_12, li_15, li_16, li_20, li_30, li_34, li_38, li_40, li_63, li_64, li_65, li_78, li_120, li_1000, li_4000, li_10000, li_11077, li_255, li_65535, li_m1, li_m2, li_m1000000001, li_m1000000002, li_m1000000003, li_m1000000004, li_m1000000005, li_m1000000006, li_m1000000007, or_true, true_or, or_false, false_or, implies_true, true_implies, false_implies] <;> omega)), (by first | omega | decide | (simp only [fa_lt, fa_le, fa_eq, and_true, true_and, and_false, false_and, not_true_eq_false, not_false_eq_true, li_0, li_1, li_2, li_3, li_4, li_5, li_6, li_7, li_8, li_9, li_10, li_12, li_15, li_16, li_20, li_30, li_34, li_38, li_40, li_63, li_64, li_65, li_78, li_120, li_1000, li_4000, li_10000, li_11077, li_255, li_65535, li_m1, li_m2, li_m1000000001, li_m1000000002, li_m1000000003, li_m1000000004, li_m1000000005, li_m1000000006, li_m1000000007, or_true, true_or, or_false, false_or, implies_true, true_implies, false_implies] <;> omega)), rfl, rfl, lv_sub hl [0, 1, 2, 3] rfl⟩
          · skip
            have tc_22 : n_20.toInt = r_21.toInt := (fa_eq _ _).mp c_22
            refine lv_iconst (v := 1) hx hb dX9_isWord_63 (by decide) ?_
            refine lv_goto (tgt := 68) hx hb dX9_isWord_64 (by decide) ?_
            refine lv_istore_n (lv' := [(2, .int 1), (3, .int v3_32), (0, .ref h0), (1, .ref (ad kk))]) hx hb dX9_isWord_68 rfl hl (by decide) rfl (fun ls hl => ?_)
            obtain ⟨n_24, en_24⟩ : ∃ y : Int32, y = v3_32 + 1 := ⟨_, rfl⟩
            have tn_24 : n_24.toInt = v3_32.toInt + 1 := pp_add en_24 rfl rfl (by omega) (by omega)
            refine lv_iinc (v := n_24) (lv' := [(3, .int n_24), (2, .int 1), (0, .ref h0), (1, .ref (ad kk))]) hx hb dX9_isWord_69 hl (k := 1) rfl (by rw [en_24]; rfl) (by decide) rfl (fun ls hl => ?_)
            clear en_24
            refine lv_goto (tgt := 32) hx hb dX9_isWord_72 (by decide) ?_
            exact ihk_15 (n_24, (1 : Int32)) _ _ _ (by show ((s_n kk : Int) - n_24.toInt).toNat < k_15; omega) ⟨(by first | omega | decide | (simp only [fa_lt, fa_le, fa_eq, and_true, true_and, and_false, false_and, not_true_eq_false, not_false_eq_true, li_0, li_1, li_2, li_3, li_4, li_5, li_6, li_7, li_8, li_9, li_10, li_12, li_15, li_16, li_20, li_30, li_34, li_38, li_40, li_63, li_64, li_65, li_78, li_120, li_1000, li_4000, li_10000, li_11077, li_255, li_65535, li_m1, li_m2, li_m1000000001, li_m1000000002, li_m1000000003, li_m1000000004, li_m1000000005, li_m1000000006, li_m1000000007, or_true, true_or, or_false, false_or, implies_true, true_implies, false_implies] <;> omega)), (by first | omega | decide | (simp only [fa_lt, fa_le, fa_eq, and_true, true_and, and_false, false_and, not_true_eq_false, not_false_eq_true, li_0, li_1, li_2, li_3, li_4, li_5, li_6, li_7, li_8, li_9, li_10, li_12, li_15, li_16, li_20, li_30, li_34, li_38, li_40, li_63, li_64, li_65, li_78, li_120, li_1000, li_4000, li_10000, li_11077, li_255, li_65535, li_m1, li_m2, li_m1000000001, li_m1000000002, li_m1000000003, li_m1000000004, li_m1000000005, li_m1000000006, li_m1000000007, or_true, true_or, or_false, false_or, implies_true, true_implies, false_implies] <;> omega)), rfl, rfl, lv_sub hl [0, 1, 2, 3] rfl⟩
    · skip
      have tc_14 : n_12.toInt = r_13.toInt := (fa_eq _ _).mp c_14
      refine lv_iconst (v := 1) hx hb dX9_isWord_24 (by decide) ?_
      refine lv_goto (tgt := 29) hx hb dX9_isWord_25 (by decide) ?_
      refine lv_istore_n (lv' := [(2, .int 1), (0, .ref h0), (1, .ref (ad kk))]) hx hb dX9_isWord_29 rfl hl (by decide) rfl (fun ls hl => ?_)
      refine lv_iconst (v := 0) hx hb dX9_isWord_30 (by decide) ?_
      refine lv_istore_n (lv' := [(3, .int 0), (2, .int 1), (0, .ref h0), (1, .ref (ad kk))]) hx hb dX9_isWord_31 rfl hl (by decide) rfl (fun ls hl => ?_)
      refine pp_loop (ι := Int32 × Int32) (fun ⟨v3_32, v2_32⟩ => ((s_n kk : Int) - v3_32.toInt).toNat) (fun ⟨v3_32, v2_32⟩ H locs ls => (0 ≤ v3_32.toInt ∧ v3_32.toInt ≤ 8) ∧ (v2_32.toInt = 0 ∨ (v2_32.toInt = 1 ∧ so.toInt = 1 ∧ en.toInt - bg.toInt = (s_n kk : Int))) ∧ H = s.heap ∧ locs = [] ∧ lv_has ls 4 [(3, .int v3_32), (2, .int v2_32), (0, .ref h0), (1, .ref (ad kk))]) ?_ (0, 1) _ _ _ ⟨(by first | omega | decide | (simp only [fa_lt, fa_le, fa_eq, and_true, true_and, and_false, false_and, not_true_eq_false, not_false_eq_true, li_0, li_1, li_2, li_3, li_4, li_5, li_6, li_7, li_8, li_9, li_10, li_12, li_15, li_16, li_20, li_30, li_34, li_38, li_40, li_63, li_64, li_65, li_78, li_120, li_1000, li_4000, li_10000, li_11077, li_255, li_65535, li_m1, li_m2, li_m1000000001, li_m1000000002, li_m1000000003, li_m1000000004, li_m1000000005, li_m1000000006, li_m1000000007, or_true, true_or, or_false, false_or, implies_true, true_implies, false_implies] <;> omega)), (by first | omega | decide | (simp only [fa_lt, fa_le, fa_eq, and_true, true_and, and_false, false_and, not_true_eq_false, not_false_eq_true, li_0, li_1, li_2, li_3, li_4, li_5, li_6, li_7, li_8, li_9, li_10, li_12, li_15, li_16, li_20, li_30, li_34, li_38, li_40, li_63, li_64, li_65, li_78, li_120, li_1000, li_4000, li_10000, li_11077, li_255, li_65535, li_m1, li_m2, li_m1000000001, li_m1000000002, li_m1000000003, li_m1000000004, li_m1000000005, li_m1000000006, li_m1000000007, or_true, true_or, or_false, false_or, implies_true, true_implies, false_implies] <;> omega)), rfl, rfl, lv_sub hl [0, 1, 2, 3] rfl⟩
      intro k_25 ihk_25 u H locs ls hm hI
      obtain ⟨v3_32, v2_32⟩ := u
      obtain ⟨jk_25_0, jk_25_1, rfl, rfl, hl⟩ := hI
      have hmk_25 : ((s_n kk : Int) - v3_32.toInt).toNat < k_25 + 1 := hm
      clear hm
      have jk_25_0 : 0 ≤ v3_32.toInt ∧ v3_32.toInt ≤ 8 := jk_25_0
      have jk_25_1 : v2_32.toInt = 0 ∨ (v2_32.toInt = 1 ∧ so.toInt = 1 ∧ en.toInt - bg.toInt = (s_n kk : Int)) := jk_25_1
      have hl : lv_has ls 4 [(3, .int v3_32), (2, .int v2_32), (0, .ref h0), (1, .ref (ad kk))] := hl
      refine lv_iload_n hx hb dX9_isWord_32 rfl (lv_at hl 0 rfl) ?_
      refine lv_aload_n hx hb dX9_isWord_33 rfl (lv_at hl 3 rfl) ?_
      have hPc := hP.sub (ws' := []) [] rfl
      have hKc := hK.sub (tys' := []) [] rfl
      refine vp_callSi (W.runV (As := []) (rest := [.int v3_32]) ⟨hx, hb, hml, hown, hts⟩ (c_length l dC dI ad kk hkk) (cwV 0 hts g_m_isWord_c_length_209 rfl rfl rfl (by decide +kernel) ⟨(Nat.le_of_ble_eq_true rfl), (Nat.le_of_ble_eq_true rfl)⟩) ⟨preST_blind, sf_recv hsf hS kk hkk, fun U hU hW => ⟨rfl, preS_at hU hW hPc hKc hev, sf_at hsf hS (fun _ h => h.elim) hU hW⟩⟩ rfl rfl hl.1 rfl (lv_room (Nat.le_of_ble_eq_true rfl)) dX9_isWord_34 ⟨(Nat.le_of_ble_eq_true rfl), (Nat.le_of_ble_eq_true rfl)⟩) (fun r_26 hw => ?_)
      have hr_26 : r_26.toInt = (s_n kk : Int) := hw
      have rc_27_x := pp_rng v3_32
      have rc_27_y := pp_rng r_26
      refine lv_icmp_ge (tgt := 75) hx hb dX9_isWord_37 (by decide) (fun c_27 => ?_) (fun c_27 => ?_)
      · skip
        have tc_27 : r_26.toInt ≤ v3_32.toInt := (fa_le _ _).mp c_27
        refine lv_iload_n hx hb dX9_isWord_75 rfl (lv_at hl 1 rfl) ?_
        exact W.zret (v := v2_32) hx hb hr (pp_nb (by omega)) (fun t ht hW => ⟨v2_32, rfl, (by first | omega | decide | (simp only [fa_lt, fa_le, fa_eq, and_true, true_and, and_false, false_and, not_true_eq_false, not_false_eq_true, li_0, li_1, li_2, li_3, li_4, li_5, li_6, li_7, li_8, li_9, li_10, li_12, li_15, li_16, li_20, li_30, li_34, li_38, li_40, li_63, li_64, li_65, li_78, li_120, li_1000, li_4000, li_10000, li_11077, li_255, li_65535, li_m1, li_m2, li_m1000000001, li_m1000000002, li_m1000000003, li_m1000000004, li_m1000000005, li_m1000000006, li_m1000000007, or_true, true_or, or_false, false_or, implies_true, true_implies, false_implies] <;> omega)), ht⟩) (fun _ h => absurd h List.not_mem_nil) dX9_isWord_76
      · skip
        have tc_27 : ¬ r_26.toInt ≤ v3_32.toInt := fun h => c_27 ((fa_le _ _).mpr h)
        refine lv_iload_n hx hb dX9_isWord_40 rfl (lv_at hl 1 rfl) ?_
        refine lv_if_eq (tgt := 75) hx hb dX9_isWord_41 (by decide) (fun c_28 => ?_) (fun c_28 => ?_)
        · skip
          have tc_28 : v2_32.toInt = 0 := (fa_eq _ _).mp c_28
          refine lv_iload_n hx hb dX9_isWord_75 rfl (lv_at hl 1 rfl) ?_
          exact W.zret (v := v2_32) hx hb hr (pp_nb (by omega)) (fun t ht hW => ⟨v2_32, rfl, (by first | omega | decide | (simp only [fa_lt, fa_le, fa_eq, and_true, true_and, and_false, false_and, not_true_eq_false, not_false_eq_true, li_0, li_1, li_2, li_3, li_4, li_5, li_6, li_7, li_8, li_9, li_10, li_12, li_15, li_16, li_20, li_30, li_34, li_38, li_40, li_63, li_64, li_65, li_78, li_120, li_1000, li_4000, li_10000, li_11077, li_255, li_65535, li_m1, li_m2, li_m1000000001, li_m1000000002, li_m1000000003, li_m1000000004, li_m1000000005, li_m1000000006, li_m1000000007, or_true, true_or, or_false, false_or, implies_true, true_implies, false_implies] <;> omega)), ht⟩) (fun _ h => absurd h List.not_mem_nil) dX9_isWord_76
        · skip
          have tc_28 : ¬ v2_32.toInt = 0 := fun h => c_28 ((fa_eq _ _).mpr h)
          refine lv_aload_n hx hb dX9_isWord_44 rfl (lv_at hl 2 rfl) ?_
          refine va_get (D := (dC, dI)) (ci := 7) (v := .ref e0) (C := RX9) (T := TX9) (N := 28) hx hb hts inX9 hown hK hP 0 rfl rfl 10 (by decide) (hts _ (List.mem_of_getElem? (i := 14) rfl)) (fun _ h9 => h9) rfl dX9_isWord_45 ?_
          refine lv_aload_n hx hb dX9_isWord_48 rfl (lv_at hl 2 rfl) ?_
          refine va_get (D := (dC, dI)) (ci := 7) (v := .int bg) (C := RX9) (T := TX9) (N := 28) hx hb hts inX9 hown hK hP 0 rfl rfl 12 (by decide) (hts _ (List.mem_of_getElem? (i := 15) rfl)) (fun _ h9 => h9) rfl dX9_isWord_49 ?_
          refine lv_iload_n hx hb dX9_isWord_52 rfl (lv_at hl 0 rfl) ?_
          refine lv_iadd hx hb dX9_isWord_53 ?_
          refine lv_topi (fun n_29 en_29 => ?_)
          have tn_29 : n_29.toInt = bg.toInt + v3_32.toInt := pp_add en_29 rfl rfl (by omega) (by omega)
          clear en_29
          refine va_iald hx hb hK hP 1 0 rfl rfl (vp_in_iff.mpr ⟨by omega, by omega⟩) dX9_isWord_54 ?_
          refine lv_topi (fun n_30 en_30 => ?_)
          clear en_30
          refine lv_aload_n hx hb dX9_isWord_55 rfl (lv_at hl 3 rfl) ?_
          refine lv_iload_n hx hb dX9_isWord_56 rfl (lv_at hl 0 rfl) ?_
          have hPc := hP.sub (ws' := []) [] rfl
          have hKc := hK.sub (tys' := []) [] rfl
          refine vp_callSi (W.runV (As := [.int v3_32]) (rest := [.int n_30]) ⟨hx, hb, hml, hown, hts⟩ (c_charAt l dC dI ad kk v3_32 hkk (by first | omega | decide | (simp only [fa_lt, fa_le, fa_eq, and_true, true_and, and_false, false_and, not_true_eq_false, not_false_eq_true, li_0, li_1, li_2, li_3, li_4, li_5, li_6, li_7, li_8, li_9, li_10, li_12, li_15, li_16, li_20, li_30, li_34, li_38, li_40, li_63, li_64, li_65, li_78, li_120, li_1000, li_4000, li_10000, li_11077, li_255, li_65535, li_m1, li_m2, li_m1000000001, li_m1000000002, li_m1000000003, li_m1000000004, li_m1000000005, li_m1000000006, li_m1000000007, or_true, true_or, or_false, false_or, implies_true, true_implies, false_implies] <;> omega))) (cwV 1 hts g_m_isWord_c_charAt_213 rfl rfl rfl (by decide +kernel) ⟨(Nat.le_of_ble_eq_true rfl), (Nat.le_of_ble_eq_true rfl)⟩) ⟨preST_blind, sf_recv hsf hS kk hkk, fun U hU hW => ⟨rfl, preS_at hU hW hPc hKc hev, sf_at hsf hS (fun _ h => h.elim) hU hW⟩⟩ rfl rfl hl.1 rfl (lv_room (Nat.le_of_ble_eq_true rfl)) dX9_isWord_57 ⟨(Nat.le_of_ble_eq_true rfl), (Nat.le_of_ble_eq_true rfl)⟩) (fun r_31 hw => ?_)
          have rc_32_x := pp_rng n_30
          have rc_32_y := pp_rng r_31
          refine lv_icmp_ne (tgt := 67) hx hb dX9_isWord_60 (by decide) (fun c_32 => ?_) (fun c_32 => ?_)
          · skip
            have tc_32 : ¬ n_30.toInt = r_31.toInt := fun h => c_32 ((fa_eq _ _).mpr h)
            refine lv_iconst (v := 0) hx hb dX9_isWord_67 (by decide) ?_
            refine lv_istore_n (lv' := [(2, .int 0), (3, .int v3_32), (0, .ref h0), (1, .ref (ad kk))]) hx hb dX9_isWord_68 rfl hl (by decide) rfl (fun ls hl => ?_)
            obtain ⟨n_33, en_33⟩ : ∃ y : Int32, y = v3_32 + 1 := ⟨_, rfl⟩
            have tn_33 : n_33.toInt = v3_32.toInt + 1 := pp_add en_33 rfl rfl (by omega) (by omega)
            refine lv_iinc (v := n_33) (lv' := [(3, .int n_33), (2, .int 0), (0, .ref h0), (1, .ref (ad kk))]) hx hb dX9_isWord_69 hl (k := 1) rfl (by rw [en_33]; rfl) (by decide) rfl (fun ls hl => ?_)
            clear en_33
            refine lv_goto (tgt := 32) hx hb dX9_isWord_72 (by decide) ?_
            exact ihk_25 (n_33, (0 : Int32)) _ _ _ (by show ((s_n kk : Int) - n_33.toInt).toNat < k_25; omega) ⟨(by first | omega | decide | (simp only [fa_lt, fa_le, fa_eq, and_true, true_and, and_false, false_and, not_true_eq_false, not_false_eq_true, li_0, li_1, li_2, li_3, li_4, li_5, li_6, li_7, li_8, li_9, li_10, li_12, li_15, li_16, li_20, li_30, li_34, li_38, li_40, li_63, li_64, li_65, li_78, li_120, li_1000, li_4000, li_10000, li_11077, li_255, li_65535, li_m1, li_m2, li_m1000000001, li_m1000000002, li_m1000000003, li_m1000000004, li_m1000000005, li_m1000000006, li_m1000000007, or_true, true_or, or_false, false_or, implies_true, true_implies, false_implies] <;> omega)), (by first | omega | decide | (simp only [fa_lt, fa_le, fa_eq, and_true, true_and, and_false, false_and, not_true_eq_false, not_false_eq_true, li_0, li_1, li_2, li_3, li_4, li_5, li_6, li_7, li_8, li_9, li_10, li_12, li_15, li_16, li_20, li_30, li_34, li_38, li_40, li_63, li_64, li_65, li_78, li_120, li_1000, li_4000, li_10000, li_11077, li_255, li_65535, li_m1, li_m2, li_m1000000001, li_m1000000002, li_m1000000003, li_m1000000004, li_m1000000005, li_m1000000006, li_m1000000007, or_true, true_or, or_false, false_or, implies_true, true_implies, false_implies] <;> omega)), rfl, rfl, lv_sub hl [0, 1, 2, 3] rfl⟩
          · skip
            have tc_32 : n_30.toInt = r_31.toInt := (fa_eq _ _).mp c_32
            refine lv_iconst (v := 1) hx hb dX9_isWord_63 (by decide) ?_
            refine lv_goto (tgt := 68) hx hb dX9_isWord_64 (by decide) ?_
            refine lv_istore_n (lv' := [(2, .int 1), (3, .int v3_32), (0, .ref h0), (1, .ref (ad kk))]) hx hb dX9_isWord_68 rfl hl (by decide) rfl (fun ls hl => ?_)
            obtain ⟨n_34, en_34⟩ : ∃ y : Int32, y = v3_32 + 1 := ⟨_, rfl⟩
            have tn_34 : n_34.toInt = v3_32.toInt + 1 := pp_add en_34 rfl rfl (by omega) (by omega)
            refine lv_iinc (v := n_34) (lv' := [(3, .int n_34), (2, .int 1), (0, .ref h0), (1, .ref (ad kk))]) hx hb dX9_isWord_69 hl (k := 1) rfl (by rw [en_34]; rfl) (by decide) rfl (fun ls hl => ?_)
            clear en_34
            refine lv_goto (tgt := 32) hx hb dX9_isWord_72 (by decide) ?_
            exact ihk_25 (n_34, (1 : Int32)) _ _ _ (by show ((s_n kk : Int) - n_34.toInt).toNat < k_25; omega) ⟨(by first | omega | decide | (simp only [fa_lt, fa_le, fa_eq, and_true, true_and, and_false, false_and, not_true_eq_false, not_false_eq_true, li_0, li_1, li_2, li_3, li_4, li_5, li_6, li_7, li_8, li_9, li_10, li_12, li_15, li_16, li_20, li_30, li_34, li_38, li_40, li_63, li_64, li_65, li_78, li_120, li_1000, li_4000, li_10000, li_11077, li_255, li_65535, li_m1, li_m2, li_m1000000001, li_m1000000002, li_m1000000003, li_m1000000004, li_m1000000005, li_m1000000006, li_m1000000007, or_true, true_or, or_false, false_or, implies_true, true_implies, false_implies] <;> omega)), (by first | omega | decide | (simp only [fa_lt, fa_le, fa_eq, and_true, true_and, and_false, false_and, not_true_eq_false, not_false_eq_true, li_0, li_1, li_2, li_3, li_4, li_5, li_6, li_7, li_8, li_9, li_10, li_12, li_15, li_16, li_20, li_30, li_34, li_38, li_40, li_63, li_64, li_65, li_78, li_120, li_1000, li_4000, li_10000, li_11077, li_255, li_65535, li_m1, li_m2, li_m1000000001, li_m1000000002, li_m1000000003, li_m1000000004, li_m1000000005, li_m1000000006, li_m1000000007, or_true, true_or, or_false, false_or, implies_true, true_implies, false_implies] <;> omega)), rfl, rfl, lv_sub hl [0, 1, 2, 3] rfl⟩

def w_m_mustG : List Cond := .code yX9_must cX9_must 2 none :: (([.fieldLink RX9 217 "LampShapesModel" "isWrong" "Z", .methodLink RX9 221 yX9_next, .instanceMethod yX9_next, .selects RX9 yX9_next yX9_next, .initialized RX9, .code yX9_next cX9_next 2 none, .fieldLink RX9 191 "LampShapesModel" "ends" "I", .fieldLink RX9 194 "LampShapesModel" "begins" "I", .methodLink RX9 197 yX9_byteAt, .instanceMethod yX9_byteAt, .selects RX9 yX9_byteAt yX9_byteAt, .code yX9_byteAt cX9_byteAt 2 (some .int), .fieldLink RX9 188 "LampShapesModel" "taped" "I", .fieldLink RX9 32 "LampShapesModel" "tape" "[I", .fieldLink RX9 200 "LampShapesModel" "value" "I", .methodLink RX9 75 yX9_within, .static yX9_within, .code yX9_within cX9_within 3 (some .boolean), .methodLink RX9 206 yX9_isRowSign, .static yX9_isRowSign, .code yX9_isRowSign cX9_isRowSign 1 (some .boolean), .fieldLink RX9 203 "LampShapesModel" "sort" "I", .methodLink RX9 171 Lib.Math.min.name, .static Lib.Math.min.name, .initialized "java/lang/Math", .code Lib.Math.min.name Lib.Math.min.code 2 (some .int)] : List Cond) ++ wsX90)
set_option maxRecDepth 20000 in
theorem g_m_mustG_m_next_221 : GoodIn w_m_mustG (wsV RX9 221 RX9 yX9_next w_m_next) := goodIn_r _ [2, 3, 4, 5, 6, 7, 8, 9, 10, 11, 5, 12, 13, 14, 15, 16, 17, 18, 19, 20, 21, 22, 23, 24, 25, 26, 27, 28, 29, 30, 31, 32, 33, 34, 35, 36, 37, 38, 39, 40, 41, 42, 43, 44, 45, 46, 47, 48, 49, 50, 51, 52, 53, 54] rfl (by decide +kernel)
set_option maxHeartbeats 4000000 in
set_option maxRecDepth 100000 in
theorem m_mustG (l : Launch) (dC : Nat → ClassId) (dI : Nat → Nat → Nat) (ad : Nat → Nat) (h0 : Nat) (iz : Int32) (v0 : Value) (v1 : Value) (v2 : Value) (v3 : Value) (v4 : Value) (v5 : Value) (v6 : Value) (v7 : Value) (v8 : Value) (v9 : Value) (e0 : Nat) (ts : Int32) (bg : Int32) (en : Int32) (so : Int32) (va : Int32) (iw : Int32) (v17 : Value) (v18 : Value) (v19 : Value) (v20 : Value) (v21 : Value) (v22 : Value) (v23 : Value) (v24 : Value) (v25 : Value) (v26 : Value) (v27 : Value) (ec : ClassId) (ef : Nat → Int32) (sz : Nat) (htm : 0 ≤ ts.toInt ∧ ts.toInt ≤ 120) (hlx : 0 ≤ bg.toInt ∧ en.toInt ≤ ts.toInt ∧ bg.toInt ≤ en.toInt) (hso : (so.toInt = 1 ∨ so.toInt = 3) → bg.toInt + 1 ≤ en.toInt) (hva : 0 ≤ va.toInt ∧ va.toInt ≤ 10000) : Met l yX9_must w_m_mustG ({ frames := 2, cells := 0, slots := 0, locals := 43 } : Room) (va_Pc [.ref h0, .int iz] (preM dC dI ad [(ec, .int)] [(h0, .inr (7, [v0, v1, v2, v3, v4, v5, v6, v7, v8, v9, .ref e0, .int ts, .int bg, .int en, .int so, .int va, .int iw, v17, v18, v19, v20, v21, v22, v23, v24, v25, v26, v27])), (e0, .inl (ec, 120, .inl ef))] sz)) (va_Qv (fun (_ : Unit) => True) (fun _ t => ∃ (bg2 : Int32), ∃ (en2 : Int32), ∃ (so2 : Int32), ∃ (va2 : Int32), ∃ (iw2 : Int32), (0 ≤ bg2.toInt ∧ en2.toInt ≤ ts.toInt ∧ bg2.toInt ≤ en2.toInt) ∧ ((so2.toInt = 1 ∨ so2.toInt = 3) → bg2.toInt + 1 ≤ en2.toInt) ∧ (0 ≤ va2.toInt ∧ va2.toInt ≤ 10000) ∧ (iw2.toInt = 0 ∨ iw2.toInt = 1) ∧ (iw2.toInt = 0 → iw.toInt = 0 ∧ ¬ iz.toInt = 0 ∧ en.toInt ≤ bg2.toInt) ∧ va_P (dC, dI) vwCl [(h0, .inr (7, [v0, v1, v2, v3, v4, v5, v6, v7, v8, v9, .ref e0, .int ts, .int bg2, .int en2, .int so2, .int va2, .int iw2, v17, v18, v19, v20, v21, v22, v23, v24, v25, v26, v27])), (e0, .inl (ec, 120, .inl ef))] t.heap ∧ va_K (dC, dI) vwCl [(ec, .int)] t ∧ va_D (va_A [(h0, .inr (7, [v0, v1, v2, v3, v4, v5, v6, v7, v8, v9, .ref e0, .int ts, .int bg, .int en, .int so, .int va, .int iw, v17, v18, v19, v20, v21, v22, v23, v24, v25, v26, v27])), (e0, .inl (ec, 120, .inl ef))] sz) [(h0, .inr (7, [v0, v1, v2, v3, v4, v5, v6, v7, v8, v9, .ref e0, .int ts, .int bg2, .int en2, .int so2, .int va2, .int iw2, v17, v18, v19, v20, v21, v22, v23, v24, v25, v26, v27])), (e0, .inl (ec, 120, .inl ef))]) (va_A [(h0, .inr (7, [v0, v1, v2, v3, v4, v5, v6, v7, v8, v9, .ref e0, .int ts, .int bg, .int en, .int so, .int va, .int iw, v17, v18, v19, v20, v21, v22, v23, v24, v25, v26, v27])), (e0, .inl (ec, 120, .inl ef))] sz)) 0 0 (va_A [(h0, .inr (7, [v0, v1, v2, v3, v4, v5, v6, v7, v8, v9, .ref e0, .int ts, .int bg, .int en, .int so, .int va, .int iw, v17, v18, v19, v20, v21, v22, v23, v24, v25, v26, v27])), (e0, .inl (ec, 120, .inl ef))] sz) := by
  refine Met.ofW (cc := cX9_must) (maxL := 2) (ret := none) (by decide) rfl ?_
  intro p e s m args below meth c s₁ B hml hv
  obtain ⟨rfl, hsz, hP, hK, hD0, hev⟩ := hv
  have hx := B.exec
  have hb := B.bytes
  have hr := B.returns
  have hts := atoms_spec (ws := w_m_mustG) B.pre
  have hown : s.vm.findClass RX9 = some m.cls := findClass_of_methodNamed B.named
  have hlocks := B.notSynchronized
  have inX9 : ∀ w ∈ wsX90, w ∈ w_m_mustG := fun w h => List.mem_cons_of_mem _ (List.mem_append_right _ h)
  subst hsz
  have hD := hD0.self (sz := s.heap.size)
  generalize hAe : va_A [(h0, .inr (7, [v0, v1, v2, v3, v4, v5, v6, v7, v8, v9, .ref e0, .int ts, .int bg, .int en, .int so, .int va, .int iw, v17, v18, v19, v20, v21, v22, v23, v24, v25, v26, v27])), (e0, .inl (ec, 120, .inl ef))] s.heap.size = A at hD ⊢
  have hA : ∀ q : Nat, s.heap.size ≤ q → A q := fun q h => by rw [← hAe]; exact Or.inr h
  have hS : va_S A s.heap s.heap [] := va_S.rf
  have hP : va_P (dC, dI) vwCl [(h0, .inr (7, [v0, v1, v2, v3, v4, v5, v6, v7, v8, v9, .ref e0, .int ts, .int bg, .int en, .int so, .int va, .int iw, v17, v18, v19, v20, v21, v22, v23, v24, v25, v26, v27])), (e0, .inl (ec, 120, .inl ef))] s.heap := hP
  have hl := lv_entry ([.ref h0, .int iz]) (n := 2) (Nat.le_of_ble_eq_true rfl)
  rw [lg_entry_eq]
  generalize (lg_sl ([.ref h0, .int iz]) ++ List.replicate (2 - (lg_sl ([.ref h0, .int iz])).length) Slot.unset).toArray = ls at hl ⊢
  have hl : lv_has ls 2 [(0, .ref h0), (1, .int iz)] := hl
  refine lv_aload_n hx hb dX9_must_0 rfl (lv_at hl 0 rfl) ?_
  refine lv_aload_n hx hb dX9_must_1 rfl (lv_at hl 0 rfl) ?_
  refine va_get (D := (dC, dI)) (ci := 7) (v := .int iw) (C := RX9) (T := TX9) (N := 28) hx hb hts inX9 hown hK hP 0 rfl rfl 16 (by decide) (hts _ (List.mem_of_getElem? (i := 1) rfl)) (fun _ h9 => h9) rfl dX9_must_2 ?_
  refine lv_if_ne (tgt := 12) hx hb dX9_must_5 (by decide) (fun c_1 => ?_) (fun c_1 => ?_)
  · skip
    have tc_1 : ¬ iw.toInt = 0 := fun h => c_1 ((fa_eq _ _).mpr h)
    refine lv_iconst (v := 1) hx hb dX9_must_12 (by decide) ?_
    refine lv_goto (tgt := 17) hx hb dX9_must_13 (by decide) ?_
    refine va_put (D := (dC, dI)) (ci := 7) (v := .int 1) (ty := .boolean) (C := RX9) (T := TX9) (N := 28) hx hb hts inX9 tyX9 tyX9_ok nmX9 hown hK hP hD hS 0 rfl rfl 16 (by decide) (hts _ (List.mem_of_getElem? (i := 1) rfl)) (fun _ h9 => h9) rfl (by decide +kernel) (by decide) rfl (Nat.le_of_ble_eq_true rfl) dX9_must_17 (fun H locs hP hD hS => ?_)
    have hP : va_P (dC, dI) vwCl [(h0, .inr (7, [v0, v1, v2, v3, v4, v5, v6, v7, v8, v9, .ref e0, .int ts, .int bg, .int en, .int so, .int va, .int 1, v17, v18, v19, v20, v21, v22, v23, v24, v25, v26, v27])), (e0, .inl (ec, 120, .inl ef))] H := hP
    have hD : va_D A [(h0, .inr (7, [v0, v1, v2, v3, v4, v5, v6, v7, v8, v9, .ref e0, .int ts, .int bg, .int en, .int so, .int va, .int 1, v17, v18, v19, v20, v21, v22, v23, v24, v25, v26, v27])), (e0, .inl (ec, 120, .inl ef))] := hD
    refine lv_aload_n hx hb dX9_must_20 rfl (lv_at hl 0 rfl) ?_
    refine va_get (D := (dC, dI)) (ci := 7) (v := .int 1) (C := RX9) (T := TX9) (N := 28) hx hb hts inX9 hown hK hP 0 rfl rfl 16 (by decide) (hts _ (List.mem_of_getElem? (i := 1) rfl)) (fun _ h9 => h9) rfl dX9_must_21 ?_
    refine lv_if_ne (tgt := 31) hx hb dX9_must_24 (by decide) (fun _ => ?_) (fun c => absurd c (by decide))
    have hP9 := hP.sub (ws' := [(h0, .inr (7, [v0, v1, v2, v3, v4, v5, v6, v7, v8, v9, .ref e0, .int ts, .int bg, .int en, .int so, .int va, .int 1, v17, v18, v19, v20, v21, v22, v23, v24, v25, v26, v27])), (e0, .inl (ec, 120, .inl ef))]) [0, 1] rfl
    have hD9 := hD.sub (ws' := [(h0, .inr (7, [v0, v1, v2, v3, v4, v5, v6, v7, v8, v9, .ref e0, .int ts, .int bg, .int en, .int so, .int va, .int 1, v17, v18, v19, v20, v21, v22, v23, v24, v25, v26, v27])), (e0, .inl (ec, 120, .inl ef))]) [0, 1] (by decide) rfl
    have hK9 := hK.sub (tys' := [(ec, .int)]) [0] rfl
    exact W.vret hx hb hr (fun t ht hW => ⟨⟨(), rfl, trivial, bg, en, so, va, 1, hlx, hso, hva, (by first | omega | decide | (simp only [fa_lt, fa_le, fa_eq, and_true, true_and, and_false, false_and, not_true_eq_false, not_false_eq_true, li_0, li_1, li_2, li_3, li_4, li_5, li_6, li_7, li_8, li_9, li_10, li_12, li_15, li_16, li_20, li_30, li_34, li_38, li_40, li_63, li_64, li_65, li_78, li_120, li_1000, li_4000, li_10000, li_11077, li_255, li_65535, li_m1, li_m2, li_m1000000001, li_m1000000002, li_m1000000003, li_m1000000004, li_m1000000005, li_m1000000006, li_m1000000007, or_true, true_or, or_false, false_or, implies_true, true_implies, false_implies] <;> omega)), (by first | omega | decide | (simp only [fa_lt, fa_le, fa_eq, and_true, true_and, and_false, false_and, not_true_eq_false, not_false_eq_true, li_0, li_1, li_2, li_3, li_4, li_5, li_6, li_7, li_8, li_9, li_10, li_12, li_15, li_16, li_20, li_30, li_34, li_38, li_40, li_63, li_64, li_65, li_78, li_120, li_1000, li_4000, li_10000, li_11077, li_255, li_65535, li_m1, li_m2, li_m1000000001, li_m1000000002, li_m1000000003, li_m1000000004, li_m1000000005, li_m1000000006, li_m1000000007, or_true, true_or, or_false, false_or, implies_true, true_implies, false_implies] <;> omega)), by rw [ht]; exact hP9, va_K.moved hW.alike hK9, hD9⟩, hS.F ht⟩) hS.2.2 dX9_must_31
  · skip
    have tc_1 : iw.toInt = 0 := (fa_eq _ _).mp c_1
    refine lv_iload_n hx hb dX9_must_8 rfl (lv_at hl 1 rfl) ?_
    refine lv_if_ne (tgt := 16) hx hb dX9_must_9 (by decide) (fun c_2 => ?_) (fun c_2 => ?_)
    · skip
      have tc_2 : ¬ iz.toInt = 0 := fun h => c_2 ((fa_eq _ _).mpr h)
      refine lv_iconst (v := 0) hx hb dX9_must_16 (by decide) ?_
      refine va_put (D := (dC, dI)) (ci := 7) (v := .int 0) (ty := .boolean) (C := RX9) (T := TX9) (N := 28) hx hb hts inX9 tyX9 tyX9_ok nmX9 hown hK hP hD hS 0 rfl rfl 16 (by decide) (hts _ (List.mem_of_getElem? (i := 1) rfl)) (fun _ h9 => h9) rfl (by decide +kernel) (by decide) rfl (Nat.le_of_ble_eq_true rfl) dX9_must_17 (fun H locs hP hD hS => ?_)
      have hP : va_P (dC, dI) vwCl [(h0, .inr (7, [v0, v1, v2, v3, v4, v5, v6, v7, v8, v9, .ref e0, .int ts, .int bg, .int en, .int so, .int va, .int 0, v17, v18, v19, v20, v21, v22, v23, v24, v25, v26, v27])), (e0, .inl (ec, 120, .inl ef))] H := hP
      have hD : va_D A [(h0, .inr (7, [v0, v1, v2, v3, v4, v5, v6, v7, v8, v9, .ref e0, .int ts, .int bg, .int en, .int so, .int va, .int 0, v17, v18, v19, v20, v21, v22, v23, v24, v25, v26, v27])), (e0, .inl (ec, 120, .inl ef))] := hD
      refine lv_aload_n hx hb dX9_must_20 rfl (lv_at hl 0 rfl) ?_
      refine va_get (D := (dC, dI)) (ci := 7) (v := .int 0) (C := RX9) (T := TX9) (N := 28) hx hb hts inX9 hown hK hP 0 rfl rfl 16 (by decide) (hts _ (List.mem_of_getElem? (i := 1) rfl)) (fun _ h9 => h9) rfl dX9_must_21 ?_
      refine lv_if_ne (tgt := 31) hx hb dX9_must_24 (by decide) (fun c => absurd (by decide) c) (fun _ => ?_)
      refine lv_aload_n hx hb dX9_must_27 rfl (lv_at hl 0 rfl) ?_
      have hPc := hP.sub (ws' := [(h0, .inr (7, [v0, v1, v2, v3, v4, v5, v6, v7, v8, v9, .ref e0, .int ts, .int bg, .int en, .int so, .int va, .int 0, v17, v18, v19, v20, v21, v22, v23, v24, v25, v26, v27])), (e0, .inl (ec, 120, .inl ef))]) [0, 1] rfl
      have hKc := hK.sub (tys' := [(ec, .int)]) [0] rfl
      have hDc := hD.sub (ws' := [(h0, .inr (7, [v0, v1, v2, v3, v4, v5, v6, v7, v8, v9, .ref e0, .int ts, .int bg, .int en, .int so, .int va, .int 0, v17, v18, v19, v20, v21, v22, v23, v24, v25, v26, v27])), (e0, .inl (ec, 120, .inl ef))]) [0, 1] (by decide) rfl
      have hFc := va_free (wc := [(h0, .inr (7, [v0, v1, v2, v3, v4, v5, v6, v7, v8, v9, .ref e0, .int ts, .int bg, .int en, .int so, .int va, .int 0, v17, v18, v19, v20, v21, v22, v23, v24, v25, v26, v27])), (e0, .inl (ec, 120, .inl ef))]) hD hS hA [0, 1] rfl
      refine va_callv (va_runV (As := []) (rest := []) ⟨hx, hb, hml, hown, hts⟩ (m_next l dC dI ad h0 v0 v1 v2 v3 v4 v5 v6 v7 v8 v9 e0 ts bg en so va (.int 0) v17 v18 v19 v20 v21 v22 v23 v24 v25 v26 v27 ec ef H.size htm (by first | omega | decide | (simp only [fa_lt, fa_le, fa_eq, and_true, true_and, and_false, false_and, not_true_eq_false, not_false_eq_true, li_0, li_1, li_2, li_3, li_4, li_5, li_6, li_7, li_8, li_9, li_10, li_12, li_15, li_16, li_20, li_30, li_34, li_38, li_40, li_63, li_64, li_65, li_78, li_120, li_1000, li_4000, li_10000, li_11077, li_255, li_65535, li_m1, li_m2, li_m1000000001, li_m1000000002, li_m1000000003, li_m1000000004, li_m1000000005, li_m1000000006, li_m1000000007, or_true, true_or, or_false, false_or, implies_true, true_implies, false_implies] <;> omega))) (cwV 0 hts g_m_mustG_m_next_221 rfl rfl rfl (by decide +kernel) ⟨(Nat.le_of_ble_eq_true rfl), (Nat.le_of_ble_eq_true rfl)⟩) ⟨preM_blind, va_recv hKc hPc (ci := 7) (q0 := 0) rfl rfl, fun U hU hW => ⟨rfl, preM_at hU hW hPc hKc hDc hev⟩⟩ rfl rfl hl.1 rfl (lv_room (Nat.le_of_ble_eq_true rfl)) dX9_must_28 ⟨(Nat.le_of_ble_eq_true rfl), (Nat.le_of_ble_eq_true rfl)⟩) hS (fun q _ h => hFc q h) hFc (fun u t H1 locs ht hvm hw hB hz1 hk1 hS => ?_)
      obtain ⟨bg_4, en_5, so_6, va_7, hq_8, hq_9, hq_10, hq_11, hP1, hK1, hD1⟩ := hB
      rw [ht] at hP1
      have hK1 := va_K.moved hvm.symm hK1
      obtain ⟨hP, hD⟩ := va_join (wr := []) (w1 := [(h0, .inr (7, [v0, v1, v2, v3, v4, v5, v6, v7, v8, v9, .ref e0, .int ts, .int bg_4, .int en_5, .int so_6, .int va_7, .int 0, v17, v18, v19, v20, v21, v22, v23, v24, v25, v26, v27])), (e0, .inl (ec, 120, .inl ef))]) hP hD [0, 1] [] rfl rfl (by decide) (by decide) hk1 hFc hP1 hD1
      generalize H1 = H at hP hS ⊢
      have hP : va_P (dC, dI) vwCl [(h0, .inr (7, [v0, v1, v2, v3, v4, v5, v6, v7, v8, v9, .ref e0, .int ts, .int bg_4, .int en_5, .int so_6, .int va_7, .int 0, v17, v18, v19, v20, v21, v22, v23, v24, v25, v26, v27])), (e0, .inl (ec, 120, .inl ef))] H := hP
      have hD : va_D A [(h0, .inr (7, [v0, v1, v2, v3, v4, v5, v6, v7, v8, v9, .ref e0, .int ts, .int bg_4, .int en_5, .int so_6, .int va_7, .int 0, v17, v18, v19, v20, v21, v22, v23, v24, v25, v26, v27])), (e0, .inl (ec, 120, .inl ef))] := hD
      have hP9 := hP.sub (ws' := [(h0, .inr (7, [v0, v1, v2, v3, v4, v5, v6, v7, v8, v9, .ref e0, .int ts, .int bg_4, .int en_5, .int so_6, .int va_7, .int 0, v17, v18, v19, v20, v21, v22, v23, v24, v25, v26, v27])), (e0, .inl (ec, 120, .inl ef))]) [0, 1] rfl
      have hD9 := hD.sub (ws' := [(h0, .inr (7, [v0, v1, v2, v3, v4, v5, v6, v7, v8, v9, .ref e0, .int ts, .int bg_4, .int en_5, .int so_6, .int va_7, .int 0, v17, v18, v19, v20, v21, v22, v23, v24, v25, v26, v27])), (e0, .inl (ec, 120, .inl ef))]) [0, 1] (by decide) rfl
      have hK9 := hK.sub (tys' := [(ec, .int)]) [0] rfl
      exact W.vret hx hb hr (fun t ht hW => ⟨⟨(), rfl, trivial, bg_4, en_5, so_6, va_7, 0, hq_8, hq_9, hq_10, (by first | omega | decide | (simp only [fa_lt, fa_le, fa_eq, and_true, true_and, and_false, false_and, not_true_eq_false, not_false_eq_true, li_0, li_1, li_2, li_3, li_4, li_5, li_6, li_7, li_8, li_9, li_10, li_12, li_15, li_16, li_20, li_30, li_34, li_38, li_40, li_63, li_64, li_65, li_78, li_120, li_1000, li_4000, li_10000, li_11077, li_255, li_65535, li_m1, li_m2, li_m1000000001, li_m1000000002, li_m1000000003, li_m1000000004, li_m1000000005, li_m1000000006, li_m1000000007, or_true, true_or, or_false, false_or, implies_true, true_implies, false_implies] <;> omega)), (by first | omega | decide | (simp only [fa_lt, fa_le, fa_eq, and_true, true_and, and_false, false_and, not_true_eq_false, not_false_eq_true, li_0, li_1, li_2, li_3, li_4, li_5, li_6, li_7, li_8, li_9, li_10, li_12, li_15, li_16, li_20, li_30, li_34, li_38, li_40, li_63, li_64, li_65, li_78, li_120, li_1000, li_4000, li_10000, li_11077, li_255, li_65535, li_m1, li_m2, li_m1000000001, li_m1000000002, li_m1000000003, li_m1000000004, li_m1000000005, li_m1000000006, li_m1000000007, or_true, true_or, or_false, false_or, implies_true, true_implies, false_implies] <;> omega)), by rw [ht]; exact hP9, va_K.moved hW.alike hK9, hD9⟩, hS.F ht⟩) hS.2.2 dX9_must_31
    · skip
      have tc_2 : iz.toInt = 0 := (fa_eq _ _).mp c_2
      refine lv_iconst (v := 1) hx hb dX9_must_12 (by decide) ?_
      refine lv_goto (tgt := 17) hx hb dX9_must_13 (by decide) ?_
      refine va_put (D := (dC, dI)) (ci := 7) (v := .int 1) (ty := .boolean) (C := RX9) (T := TX9) (N := 28) hx hb hts inX9 tyX9 tyX9_ok nmX9 hown hK hP hD hS 0 rfl rfl 16 (by decide) (hts _ (List.mem_of_getElem? (i := 1) rfl)) (fun _ h9 => h9) rfl (by decide +kernel) (by decide) rfl (Nat.le_of_ble_eq_true rfl) dX9_must_17 (fun H locs hP hD hS => ?_)
      have hP : va_P (dC, dI) vwCl [(h0, .inr (7, [v0, v1, v2, v3, v4, v5, v6, v7, v8, v9, .ref e0, .int ts, .int bg, .int en, .int so, .int va, .int 1, v17, v18, v19, v20, v21, v22, v23, v24, v25, v26, v27])), (e0, .inl (ec, 120, .inl ef))] H := hP
      have hD : va_D A [(h0, .inr (7, [v0, v1, v2, v3, v4, v5, v6, v7, v8, v9, .ref e0, .int ts, .int bg, .int en, .int so, .int va, .int 1, v17, v18, v19, v20, v21, v22, v23, v24, v25, v26, v27])), (e0, .inl (ec, 120, .inl ef))] := hD
      refine lv_aload_n hx hb dX9_must_20 rfl (lv_at hl 0 rfl) ?_
      refine va_get (D := (dC, dI)) (ci := 7) (v := .int 1) (C := RX9) (T := TX9) (N := 28) hx hb hts inX9 hown hK hP 0 rfl rfl 16 (by decide) (hts _ (List.mem_of_getElem? (i := 1) rfl)) (fun _ h9 => h9) rfl dX9_must_21 ?_
      refine lv_if_ne (tgt := 31) hx hb dX9_must_24 (by decide) (fun _ => ?_) (fun c => absurd c (by decide))
      have hP9 := hP.sub (ws' := [(h0, .inr (7, [v0, v1, v2, v3, v4, v5, v6, v7, v8, v9, .ref e0, .int ts, .int bg, .int en, .int so, .int va, .int 1, v17, v18, v19, v20, v21, v22, v23, v24, v25, v26, v27])), (e0, .inl (ec, 120, .inl ef))]) [0, 1] rfl
      have hD9 := hD.sub (ws' := [(h0, .inr (7, [v0, v1, v2, v3, v4, v5, v6, v7, v8, v9, .ref e0, .int ts, .int bg, .int en, .int so, .int va, .int 1, v17, v18, v19, v20, v21, v22, v23, v24, v25, v26, v27])), (e0, .inl (ec, 120, .inl ef))]) [0, 1] (by decide) rfl
      have hK9 := hK.sub (tys' := [(ec, .int)]) [0] rfl
      exact W.vret hx hb hr (fun t ht hW => ⟨⟨(), rfl, trivial, bg, en, so, va, 1, hlx, hso, hva, (by first | omega | decide | (simp only [fa_lt, fa_le, fa_eq, and_true, true_and, and_false, false_and, not_true_eq_false, not_false_eq_true, li_0, li_1, li_2, li_3, li_4, li_5, li_6, li_7, li_8, li_9, li_10, li_12, li_15, li_16, li_20, li_30, li_34, li_38, li_40, li_63, li_64, li_65, li_78, li_120, li_1000, li_4000, li_10000, li_11077, li_255, li_65535, li_m1, li_m2, li_m1000000001, li_m1000000002, li_m1000000003, li_m1000000004, li_m1000000005, li_m1000000006, li_m1000000007, or_true, true_or, or_false, false_or, implies_true, true_implies, false_implies] <;> omega)), (by first | omega | decide | (simp only [fa_lt, fa_le, fa_eq, and_true, true_and, and_false, false_and, not_true_eq_false, not_false_eq_true, li_0, li_1, li_2, li_3, li_4, li_5, li_6, li_7, li_8, li_9, li_10, li_12, li_15, li_16, li_20, li_30, li_34, li_38, li_40, li_63, li_64, li_65, li_78, li_120, li_1000, li_4000, li_10000, li_11077, li_255, li_65535, li_m1, li_m2, li_m1000000001, li_m1000000002, li_m1000000003, li_m1000000004, li_m1000000005, li_m1000000006, li_m1000000007, or_true, true_or, or_false, false_or, implies_true, true_implies, false_implies] <;> omega)), by rw [ht]; exact hP9, va_K.moved hW.alike hK9, hD9⟩, hS.F ht⟩) hS.2.2 dX9_must_31

def w_m_must1g : List Cond := .code yX9_must cX9_must 2 none :: (([.fieldLink RX9 217 "LampShapesModel" "isWrong" "Z", .methodLink RX9 221 yX9_next, .instanceMethod yX9_next, .selects RX9 yX9_next yX9_next, .initialized RX9, .code yX9_next cX9_next 2 none, .fieldLink RX9 191 "LampShapesModel" "ends" "I", .fieldLink RX9 194 "LampShapesModel" "begins" "I", .methodLink RX9 197 yX9_byteAt, .instanceMethod yX9_byteAt, .selects RX9 yX9_byteAt yX9_byteAt, .code yX9_byteAt cX9_byteAt 2 (some .int), .fieldLink RX9 188 "LampShapesModel" "taped" "I", .fieldLink RX9 32 "LampShapesModel" "tape" "[I", .fieldLink RX9 200 "LampShapesModel" "value" "I", .methodLink RX9 75 yX9_within, .static yX9_within, .code yX9_within cX9_within 3 (some .boolean), .methodLink RX9 206 yX9_isRowSign, .static yX9_isRowSign, .code yX9_isRowSign cX9_isRowSign 1 (some .boolean), .fieldLink RX9 203 "LampShapesModel" "sort" "I", .methodLink RX9 171 Lib.Math.min.name, .static Lib.Math.min.name, .initialized "java/lang/Math", .code Lib.Math.min.name Lib.Math.min.code 2 (some .int)] : List Cond) ++ wsX90)
set_option maxRecDepth 20000 in
theorem g_m_must1g_m_next_221 : GoodIn w_m_must1g (wsV RX9 221 RX9 yX9_next w_m_next) := goodIn_r _ [2, 3, 4, 5, 6, 7, 8, 9, 10, 11, 5, 12, 13, 14, 15, 16, 17, 18, 19, 20, 21, 22, 23, 24, 25, 26, 27, 28, 29, 30, 31, 32, 33, 34, 35, 36, 37, 38, 39, 40, 41, 42, 43, 44, 45, 46, 47, 48, 49, 50, 51, 52, 53, 54] rfl (by decide +kernel)
set_option maxHeartbeats 4000000 in
set_option maxRecDepth 100000 in
theorem m_must1g (l : Launch) (dC : Nat → ClassId) (dI : Nat → Nat → Nat) (ad : Nat → Nat) (h0 : Nat) (v0 : Value) (v1 : Value) (v2 : Value) (v3 : Value) (v4 : Value) (v5 : Value) (v6 : Value) (v7 : Value) (v8 : Value) (v9 : Value) (e0 : Nat) (ts : Int32) (bg : Int32) (en : Int32) (so : Int32) (va : Int32) (iw : Int32) (v17 : Value) (v18 : Value) (v19 : Value) (v20 : Value) (v21 : Value) (v22 : Value) (v23 : Value) (v24 : Value) (v25 : Value) (v26 : Value) (v27 : Value) (ec : ClassId) (ef : Nat → Int32) (sz : Nat) (htm : 0 ≤ ts.toInt ∧ ts.toInt ≤ 120) (hlx : 0 ≤ bg.toInt ∧ en.toInt ≤ ts.toInt ∧ bg.toInt ≤ en.toInt) (hso : (so.toInt = 1 ∨ so.toInt = 3) → bg.toInt + 1 ≤ en.toInt) (hva : 0 ≤ va.toInt ∧ va.toInt ≤ 10000) : Met l yX9_must w_m_must1g ({ frames := 2, cells := 0, slots := 0, locals := 43 } : Room) (va_Pc [.ref h0, .int 1] (preM dC dI ad [(ec, .int)] [(h0, .inr (7, [v0, v1, v2, v3, v4, v5, v6, v7, v8, v9, .ref e0, .int ts, .int bg, .int en, .int so, .int va, .int iw, v17, v18, v19, v20, v21, v22, v23, v24, v25, v26, v27])), (e0, .inl (ec, 120, .inl ef))] sz)) (va_Qv (fun (_ : Unit) => True) (fun _ t => ∃ (bg2 : Int32), ∃ (en2 : Int32), ∃ (so2 : Int32), ∃ (va2 : Int32), ∃ (iw2 : Int32), (0 ≤ bg2.toInt ∧ en2.toInt ≤ ts.toInt ∧ bg2.toInt ≤ en2.toInt) ∧ ((so2.toInt = 1 ∨ so2.toInt = 3) → bg2.toInt + 1 ≤ en2.toInt) ∧ (0 ≤ va2.toInt ∧ va2.toInt ≤ 10000) ∧ (iw2.toInt = 0 ∨ iw2.toInt = 1) ∧ (iw2.toInt = 0 → iw.toInt = 0 ∧ en.toInt ≤ bg2.toInt) ∧ va_P (dC, dI) vwCl [(h0, .inr (7, [v0, v1, v2, v3, v4, v5, v6, v7, v8, v9, .ref e0, .int ts, .int bg2, .int en2, .int so2, .int va2, .int iw2, v17, v18, v19, v20, v21, v22, v23, v24, v25, v26, v27])), (e0, .inl (ec, 120, .inl ef))] t.heap ∧ va_K (dC, dI) vwCl [(ec, .int)] t ∧ va_D (va_A [(h0, .inr (7, [v0, v1, v2, v3, v4, v5, v6, v7, v8, v9, .ref e0, .int ts, .int bg, .int en, .int so, .int va, .int iw, v17, v18, v19, v20, v21, v22, v23, v24, v25, v26, v27])), (e0, .inl (ec, 120, .inl ef))] sz) [(h0, .inr (7, [v0, v1, v2, v3, v4, v5, v6, v7, v8, v9, .ref e0, .int ts, .int bg2, .int en2, .int so2, .int va2, .int iw2, v17, v18, v19, v20, v21, v22, v23, v24, v25, v26, v27])), (e0, .inl (ec, 120, .inl ef))]) (va_A [(h0, .inr (7, [v0, v1, v2, v3, v4, v5, v6, v7, v8, v9, .ref e0, .int ts, .int bg, .int en, .int so, .int va, .int iw, v17, v18, v19, v20, v21, v22, v23, v24, v25, v26, v27])), (e0, .inl (ec, 120, .inl ef))] sz)) 0 0 (va_A [(h0, .inr (7, [v0, v1, v2, v3, v4, v5, v6, v7, v8, v9, .ref e0, .int ts, .int bg, .int en, .int so, .int va, .int iw, v17, v18, v19, v20, v21, v22, v23, v24, v25, v26, v27])), (e0, .inl (ec, 120, .inl ef))] sz) := by
  refine Met.ofW (cc := cX9_must) (maxL := 2) (ret := none) (by decide) rfl ?_
  intro p e s m args below meth c s₁ B hml hv
  obtain ⟨rfl, hsz, hP, hK, hD0, hev⟩ := hv
  have hx := B.exec
  have hb := B.bytes
  have hr := B.returns
  have hts := atoms_spec (ws := w_m_must1g) B.pre
  have hown : s.vm.findClass RX9 = some m.cls := findClass_of_methodNamed B.named
  have hlocks := B.notSynchronized
  have inX9 : ∀ w ∈ wsX90, w ∈ w_m_must1g := fun w h => List.mem_cons_of_mem _ (List.mem_append_right _ h)
  subst hsz
  have hD := hD0.self (sz := s.heap.size)
  generalize hAe : va_A [(h0, .inr (7, [v0, v1, v2, v3, v4, v5, v6, v7, v8, v9, .ref e0, .int ts, .int bg, .int en, .int so, .int va, .int iw, v17, v18, v19, v20, v21, v22, v23, v24, v25, v26, v27])), (e0, .inl (ec, 120, .inl ef))] s.heap.size = A at hD ⊢
  have hA : ∀ q : Nat, s.heap.size ≤ q → A q := fun q h => by rw [← hAe]; exact Or.inr h
  have hS : va_S A s.heap s.heap [] := va_S.rf
  have hP : va_P (dC, dI) vwCl [(h0, .inr (7, [v0, v1, v2, v3, v4, v5, v6, v7, v8, v9, .ref e0, .int ts, .int bg, .int en, .int so, .int va, .int iw, v17, v18, v19, v20, v21, v22, v23, v24, v25, v26, v27])), (e0, .inl (ec, 120, .inl ef))] s.heap := hP
  have hl := lv_entry ([.ref h0, .int 1]) (n := 2) (Nat.le_of_ble_eq_true rfl)
  rw [lg_entry_eq]
  generalize (lg_sl ([.ref h0, .int 1]) ++ List.replicate (2 - (lg_sl ([.ref h0, .int 1])).length) Slot.unset).toArray = ls at hl ⊢
  have hl : lv_has ls 2 [(0, .ref h0), (1, .int 1)] := hl
  refine lv_aload_n hx hb dX9_must_0 rfl (lv_at hl 0 rfl) ?_
  refine lv_aload_n hx hb dX9_must_1 rfl (lv_at hl 0 rfl) ?_
  refine va_get (D := (dC, dI)) (ci := 7) (v := .int iw) (C := RX9) (T := TX9) (N := 28) hx hb hts inX9 hown hK hP 0 rfl rfl 16 (by decide) (hts _ (List.mem_of_getElem? (i := 1) rfl)) (fun _ h9 => h9) rfl dX9_must_2 ?_
  refine lv_if_ne (tgt := 12) hx hb dX9_must_5 (by decide) (fun c_1 => ?_) (fun c_1 => ?_)
  · skip
    have tc_1 : ¬ iw.toInt = 0 := fun h => c_1 ((fa_eq _ _).mpr h)
    refine lv_iconst (v := 1) hx hb dX9_must_12 (by decide) ?_
    refine lv_goto (tgt := 17) hx hb dX9_must_13 (by decide) ?_
    refine va_put (D := (dC, dI)) (ci := 7) (v := .int 1) (ty := .boolean) (C := RX9) (T := TX9) (N := 28) hx hb hts inX9 tyX9 tyX9_ok nmX9 hown hK hP hD hS 0 rfl rfl 16 (by decide) (hts _ (List.mem_of_getElem? (i := 1) rfl)) (fun _ h9 => h9) rfl (by decide +kernel) (by decide) rfl (Nat.le_of_ble_eq_true rfl) dX9_must_17 (fun H locs hP hD hS => ?_)
    have hP : va_P (dC, dI) vwCl [(h0, .inr (7, [v0, v1, v2, v3, v4, v5, v6, v7, v8, v9, .ref e0, .int ts, .int bg, .int en, .int so, .int va, .int 1, v17, v18, v19, v20, v21, v22, v23, v24, v25, v26, v27])), (e0, .inl (ec, 120, .inl ef))] H := hP
    have hD : va_D A [(h0, .inr (7, [v0, v1, v2, v3, v4, v5, v6, v7, v8, v9, .ref e0, .int ts, .int bg, .int en, .int so, .int va, .int 1, v17, v18, v19, v20, v21, v22, v23, v24, v25, v26, v27])), (e0, .inl (ec, 120, .inl ef))] := hD
    refine lv_aload_n hx hb dX9_must_20 rfl (lv_at hl 0 rfl) ?_
    refine va_get (D := (dC, dI)) (ci := 7) (v := .int 1) (C := RX9) (T := TX9) (N := 28) hx hb hts inX9 hown hK hP 0 rfl rfl 16 (by decide) (hts _ (List.mem_of_getElem? (i := 1) rfl)) (fun _ h9 => h9) rfl dX9_must_21 ?_
    refine lv_if_ne (tgt := 31) hx hb dX9_must_24 (by decide) (fun _ => ?_) (fun c => absurd c (by decide))
    have hP9 := hP.sub (ws' := [(h0, .inr (7, [v0, v1, v2, v3, v4, v5, v6, v7, v8, v9, .ref e0, .int ts, .int bg, .int en, .int so, .int va, .int 1, v17, v18, v19, v20, v21, v22, v23, v24, v25, v26, v27])), (e0, .inl (ec, 120, .inl ef))]) [0, 1] rfl
    have hD9 := hD.sub (ws' := [(h0, .inr (7, [v0, v1, v2, v3, v4, v5, v6, v7, v8, v9, .ref e0, .int ts, .int bg, .int en, .int so, .int va, .int 1, v17, v18, v19, v20, v21, v22, v23, v24, v25, v26, v27])), (e0, .inl (ec, 120, .inl ef))]) [0, 1] (by decide) rfl
    have hK9 := hK.sub (tys' := [(ec, .int)]) [0] rfl
    exact W.vret hx hb hr (fun t ht hW => ⟨⟨(), rfl, trivial, bg, en, so, va, 1, hlx, hso, hva, (by first | omega | decide | (simp only [fa_lt, fa_le, fa_eq, and_true, true_and, and_false, false_and, not_true_eq_false, not_false_eq_true, li_0, li_1, li_2, li_3, li_4, li_5, li_6, li_7, li_8, li_9, li_10, li_12, li_15, li_16, li_20, li_30, li_34, li_38, li_40, li_63, li_64, li_65, li_78, li_120, li_1000, li_4000, li_10000, li_11077, li_255, li_65535, li_m1, li_m2, li_m1000000001, li_m1000000002, li_m1000000003, li_m1000000004, li_m1000000005, li_m1000000006, li_m1000000007, or_true, true_or, or_false, false_or, implies_true, true_implies, false_implies] <;> omega)), (by first | omega | decide | (simp only [fa_lt, fa_le, fa_eq, and_true, true_and, and_false, false_and, not_true_eq_false, not_false_eq_true, li_0, li_1, li_2, li_3, li_4, li_5, li_6, li_7, li_8, li_9, li_10, li_12, li_15, li_16, li_20, li_30, li_34, li_38, li_40, li_63, li_64, li_65, li_78, li_120, li_1000, li_4000, li_10000, li_11077, li_255, li_65535, li_m1, li_m2, li_m1000000001, li_m1000000002, li_m1000000003, li_m1000000004, li_m1000000005, li_m1000000006, li_m1000000007, or_true, true_or, or_false, false_or, implies_true, true_implies, false_implies] <;> omega)), by rw [ht]; exact hP9, va_K.moved hW.alike hK9, hD9⟩, hS.F ht⟩) hS.2.2 dX9_must_31
  · skip
    have tc_1 : iw.toInt = 0 := (fa_eq _ _).mp c_1
    refine lv_iload_n hx hb dX9_must_8 rfl (lv_at hl 1 rfl) ?_
    refine lv_if_ne (tgt := 16) hx hb dX9_must_9 (by decide) (fun _ => ?_) (fun c => absurd c (by decide))
    refine lv_iconst (v := 0) hx hb dX9_must_16 (by decide) ?_
    refine va_put (D := (dC, dI)) (ci := 7) (v := .int 0) (ty := .boolean) (C := RX9) (T := TX9) (N := 28) hx hb hts inX9 tyX9 tyX9_ok nmX9 hown hK hP hD hS 0 rfl rfl 16 (by decide) (hts _ (List.mem_of_getElem? (i := 1) rfl)) (fun _ h9 => h9) rfl (by decide +kernel) (by decide) rfl (Nat.le_of_ble_eq_true rfl) dX9_must_17 (fun H locs hP hD hS => ?_)
    have hP : va_P (dC, dI) vwCl [(h0, .inr (7, [v0, v1, v2, v3, v4, v5, v6, v7, v8, v9, .ref e0, .int ts, .int bg, .int en, .int so, .int va, .int 0, v17, v18, v19, v20, v21, v22, v23, v24, v25, v26, v27])), (e0, .inl (ec, 120, .inl ef))] H := hP
    have hD : va_D A [(h0, .inr (7, [v0, v1, v2, v3, v4, v5, v6, v7, v8, v9, .ref e0, .int ts, .int bg, .int en, .int so, .int va, .int 0, v17, v18, v19, v20, v21, v22, v23, v24, v25, v26, v27])), (e0, .inl (ec, 120, .inl ef))] := hD
    refine lv_aload_n hx hb dX9_must_20 rfl (lv_at hl 0 rfl) ?_
    refine va_get (D := (dC, dI)) (ci := 7) (v := .int 0) (C := RX9) (T := TX9) (N := 28) hx hb hts inX9 hown hK hP 0 rfl rfl 16 (by decide) (hts _ (List.mem_of_getElem? (i := 1) rfl)) (fun _ h9 => h9) rfl dX9_must_21 ?_
    refine lv_if_ne (tgt := 31) hx hb dX9_must_24 (by decide) (fun c => absurd (by decide) c) (fun _ => ?_)
    refine lv_aload_n hx hb dX9_must_27 rfl (lv_at hl 0 rfl) ?_
    have hPc := hP.sub (ws' := [(h0, .inr (7, [v0, v1, v2, v3, v4, v5, v6, v7, v8, v9, .ref e0, .int ts, .int bg, .int en, .int so, .int va, .int 0, v17, v18, v19, v20, v21, v22, v23, v24, v25, v26, v27])), (e0, .inl (ec, 120, .inl ef))]) [0, 1] rfl
    have hKc := hK.sub (tys' := [(ec, .int)]) [0] rfl
    have hDc := hD.sub (ws' := [(h0, .inr (7, [v0, v1, v2, v3, v4, v5, v6, v7, v8, v9, .ref e0, .int ts, .int bg, .int en, .int so, .int va, .int 0, v17, v18, v19, v20, v21, v22, v23, v24, v25, v26, v27])), (e0, .inl (ec, 120, .inl ef))]) [0, 1] (by decide) rfl
    have hFc := va_free (wc := [(h0, .inr (7, [v0, v1, v2, v3, v4, v5, v6, v7, v8, v9, .ref e0, .int ts, .int bg, .int en, .int so, .int va, .int 0, v17, v18, v19, v20, v21, v22, v23, v24, v25, v26, v27])), (e0, .inl (ec, 120, .inl ef))]) hD hS hA [0, 1] rfl
    refine va_callv (va_runV (As := []) (rest := []) ⟨hx, hb, hml, hown, hts⟩ (m_next l dC dI ad h0 v0 v1 v2 v3 v4 v5 v6 v7 v8 v9 e0 ts bg en so va (.int 0) v17 v18 v19 v20 v21 v22 v23 v24 v25 v26 v27 ec ef H.size htm (by first | omega | decide | (simp only [fa_lt, fa_le, fa_eq, and_true, true_and, and_false, false_and, not_true_eq_false, not_false_eq_true, li_0, li_1, li_2, li_3, li_4, li_5, li_6, li_7, li_8, li_9, li_10, li_12, li_15, li_16, li_20, li_30, li_34, li_38, li_40, li_63, li_64, li_65, li_78, li_120, li_1000, li_4000, li_10000, li_11077, li_255, li_65535, li_m1, li_m2, li_m1000000001, li_m1000000002, li_m1000000003, li_m1000000004, li_m1000000005, li_m1000000006, li_m1000000007, or_true, true_or, or_false, false_or, implies_true, true_implies, false_implies] <;> omega))) (cwV 0 hts g_m_must1g_m_next_221 rfl rfl rfl (by decide +kernel) ⟨(Nat.le_of_ble_eq_true rfl), (Nat.le_of_ble_eq_true rfl)⟩) ⟨preM_blind, va_recv hKc hPc (ci := 7) (q0 := 0) rfl rfl, fun U hU hW => ⟨rfl, preM_at hU hW hPc hKc hDc hev⟩⟩ rfl rfl hl.1 rfl (lv_room (Nat.le_of_ble_eq_true rfl)) dX9_must_28 ⟨(Nat.le_of_ble_eq_true rfl), (Nat.le_of_ble_eq_true rfl)⟩) hS (fun q _ h => hFc q h) hFc (fun u t H1 locs ht hvm hw hB hz1 hk1 hS => ?_)
    obtain ⟨bg_3, en_4, so_5, va_6, hq_7, hq_8, hq_9, hq_10, hP1, hK1, hD1⟩ := hB
    rw [ht] at hP1
    have hK1 := va_K.moved hvm.symm hK1
    obtain ⟨hP, hD⟩ := va_join (wr := []) (w1 := [(h0, .inr (7, [v0, v1, v2, v3, v4, v5, v6, v7, v8, v9, .ref e0, .int ts, .int bg_3, .int en_4, .int so_5, .int va_6, .int 0, v17, v18, v19, v20, v21, v22, v23, v24, v25, v26, v27])), (e0, .inl (ec, 120, .inl ef))]) hP hD [0, 1] [] rfl rfl (by decide) (by decide) hk1 hFc hP1 hD1
    generalize H1 = H at hP hS ⊢
    have hP : va_P (dC, dI) vwCl [(h0, .inr (7, [v0, v1, v2, v3, v4, v5, v6, v7, v8, v9, .ref e0, .int ts, .int bg_3, .int en_4, .int so_5, .int va_6, .int 0, v17, v18, v19, v20, v21, v22, v23, v24, v25, v26, v27])), (e0, .inl (ec, 120, .inl ef))] H := hP
    have hD : va_D A [(h0, .inr (7, [v0, v1, v2, v3, v4, v5, v6, v7, v8, v9, .ref e0, .int ts, .int bg_3, .int en_4, .int so_5, .int va_6, .int 0, v17, v18, v19, v20, v21, v22, v23, v24, v25, v26, v27])), (e0, .inl (ec, 120, .inl ef))] := hD
    have hP9 := hP.sub (ws' := [(h0, .inr (7, [v0, v1, v2, v3, v4, v5, v6, v7, v8, v9, .ref e0, .int ts, .int bg_3, .int en_4, .int so_5, .int va_6, .int 0, v17, v18, v19, v20, v21, v22, v23, v24, v25, v26, v27])), (e0, .inl (ec, 120, .inl ef))]) [0, 1] rfl
    have hD9 := hD.sub (ws' := [(h0, .inr (7, [v0, v1, v2, v3, v4, v5, v6, v7, v8, v9, .ref e0, .int ts, .int bg_3, .int en_4, .int so_5, .int va_6, .int 0, v17, v18, v19, v20, v21, v22, v23, v24, v25, v26, v27])), (e0, .inl (ec, 120, .inl ef))]) [0, 1] (by decide) rfl
    have hK9 := hK.sub (tys' := [(ec, .int)]) [0] rfl
    exact W.vret hx hb hr (fun t ht hW => ⟨⟨(), rfl, trivial, bg_3, en_4, so_5, va_6, 0, hq_7, hq_8, hq_9, (by first | omega | decide | (simp only [fa_lt, fa_le, fa_eq, and_true, true_and, and_false, false_and, not_true_eq_false, not_false_eq_true, li_0, li_1, li_2, li_3, li_4, li_5, li_6, li_7, li_8, li_9, li_10, li_12, li_15, li_16, li_20, li_30, li_34, li_38, li_40, li_63, li_64, li_65, li_78, li_120, li_1000, li_4000, li_10000, li_11077, li_255, li_65535, li_m1, li_m2, li_m1000000001, li_m1000000002, li_m1000000003, li_m1000000004, li_m1000000005, li_m1000000006, li_m1000000007, or_true, true_or, or_false, false_or, implies_true, true_implies, false_implies] <;> omega)), (by first | omega | decide | (simp only [fa_lt, fa_le, fa_eq, and_true, true_and, and_false, false_and, not_true_eq_false, not_false_eq_true, li_0, li_1, li_2, li_3, li_4, li_5, li_6, li_7, li_8, li_9, li_10, li_12, li_15, li_16, li_20, li_30, li_34, li_38, li_40, li_63, li_64, li_65, li_78, li_120, li_1000, li_4000, li_10000, li_11077, li_255, li_65535, li_m1, li_m2, li_m1000000001, li_m1000000002, li_m1000000003, li_m1000000004, li_m1000000005, li_m1000000006, li_m1000000007, or_true, true_or, or_false, false_or, implies_true, true_implies, false_implies] <;> omega)), by rw [ht]; exact hP9, va_K.moved hW.alike hK9, hD9⟩, hS.F ht⟩) hS.2.2 dX9_must_31

def w_m_must0 : List Cond := .code yX9_must cX9_must 2 none :: (([.fieldLink RX9 217 "LampShapesModel" "isWrong" "Z"] : List Cond) ++ wsX90)
set_option maxHeartbeats 4000000 in
set_option maxRecDepth 100000 in
theorem m_must0 (l : Launch) (dC : Nat → ClassId) (dI : Nat → Nat → Nat) (ad : Nat → Nat) (h0 : Nat) (v0 : Value) (v1 : Value) (v2 : Value) (v3 : Value) (v4 : Value) (v5 : Value) (v6 : Value) (v7 : Value) (v8 : Value) (v9 : Value) (v10 : Value) (v11 : Value) (v12 : Value) (v13 : Value) (v14 : Value) (v15 : Value) (iw : Int32) (v17 : Value) (v18 : Value) (v19 : Value) (v20 : Value) (v21 : Value) (v22 : Value) (v23 : Value) (v24 : Value) (v25 : Value) (v26 : Value) (v27 : Value) (sz : Nat) : Met l yX9_must w_m_must0 ({ frames := 0, cells := 0, slots := 0, locals := 0 } : Room) (va_Pc [.ref h0, .int 0] (preM dC dI ad [] [(h0, .inr (7, [v0, v1, v2, v3, v4, v5, v6, v7, v8, v9, v10, v11, v12, v13, v14, v15, .int iw, v17, v18, v19, v20, v21, v22, v23, v24, v25, v26, v27]))] sz)) (va_Qv (fun (_ : Unit) => True) (fun _ t => va_P (dC, dI) vwCl [(h0, .inr (7, [v0, v1, v2, v3, v4, v5, v6, v7, v8, v9, v10, v11, v12, v13, v14, v15, .int 1, v17, v18, v19, v20, v21, v22, v23, v24, v25, v26, v27]))] t.heap ∧ va_K (dC, dI) vwCl [] t ∧ va_D (va_A [(h0, .inr (7, [v0, v1, v2, v3, v4, v5, v6, v7, v8, v9, v10, v11, v12, v13, v14, v15, .int iw, v17, v18, v19, v20, v21, v22, v23, v24, v25, v26, v27]))] sz) [(h0, .inr (7, [v0, v1, v2, v3, v4, v5, v6, v7, v8, v9, v10, v11, v12, v13, v14, v15, .int 1, v17, v18, v19, v20, v21, v22, v23, v24, v25, v26, v27]))]) (va_A [(h0, .inr (7, [v0, v1, v2, v3, v4, v5, v6, v7, v8, v9, v10, v11, v12, v13, v14, v15, .int iw, v17, v18, v19, v20, v21, v22, v23, v24, v25, v26, v27]))] sz)) 0 0 (va_A [(h0, .inr (7, [v0, v1, v2, v3, v4, v5, v6, v7, v8, v9, v10, v11, v12, v13, v14, v15, .int iw, v17, v18, v19, v20, v21, v22, v23, v24, v25, v26, v27]))] sz) := by
  refine Met.ofW (cc := cX9_must) (maxL := 2) (ret := none) (by decide) rfl ?_
  intro p e s m args below meth c s₁ B hml hv
  obtain ⟨rfl, hsz, hP, hK, hD0, hev⟩ := hv
  have hx := B.exec
  have hb := B.bytes
  have hr := B.returns
  have hts := atoms_spec (ws := w_m_must0) B.pre
  have hown : s.vm.findClass RX9 = some m.cls := findClass_of_methodNamed B.named
  have hlocks := B.notSynchronized
  have inX9 : ∀ w ∈ wsX90, w ∈ w_m_must0 := fun w h => List.mem_cons_of_mem _ (List.mem_append_right _ h)
  subst hsz
  have hD := hD0.self (sz := s.heap.size)
  generalize hAe : va_A [(h0, .inr (7, [v0, v1, v2, v3, v4, v5, v6, v7, v8, v9, v10, v11, v12, v13, v14, v15, .int iw, v17, v18, v19, v20, v21, v22, v23, v24, v25, v26, v27]))] s.heap.size = A at hD ⊢
  have hA : ∀ q : Nat, s.heap.size ≤ q → A q := fun q h => by rw [← hAe]; exact Or.inr h
  have hS : va_S A s.heap s.heap [] := va_S.rf
  have hP : va_P (dC, dI) vwCl [(h0, .inr (7, [v0, v1, v2, v3, v4, v5, v6, v7, v8, v9, v10, v11, v12, v13, v14, v15, .int iw, v17, v18, v19, v20, v21, v22, v23, v24, v25, v26, v27]))] s.heap := hP
  have hl := lv_entry ([.ref h0, .int 0]) (n := 2) (Nat.le_of_ble_eq_true rfl)
  rw [lg_entry_eq]
  generalize (lg_sl ([.ref h0, .int 0]) ++ List.replicate (2 - (lg_sl ([.ref h0, .int 0])).length) Slot.unset).toArray = ls at hl ⊢
  have hl : lv_has ls 2 [(0, .ref h0), (1, .int 0)] := hl
  refine lv_aload_n hx hb dX9_must_0 rfl (lv_at hl 0 rfl) ?_
  refine lv_aload_n hx hb dX9_must_1 rfl (lv_at hl 0 rfl) ?_
  refine va_get (D := (dC, dI)) (ci := 7) (v := .int iw) (C := RX9) (T := TX9) (N := 28) hx hb hts inX9 hown hK hP 0 rfl rfl 16 (by decide) (hts _ (List.mem_of_getElem? (i := 1) rfl)) (fun _ h9 => h9) rfl dX9_must_2 ?_
  refine lv_if_ne (tgt := 12) hx hb dX9_must_5 (by decide) (fun c_1 => ?_) (fun c_1 => ?_)
  · skip
    have tc_1 : ¬ iw.toInt = 0 := fun h => c_1 ((fa_eq _ _).mpr h)
    refine lv_iconst (v := 1) hx hb dX9_must_12 (by decide) ?_
    refine lv_goto (tgt := 17) hx hb dX9_must_13 (by decide) ?_
    refine va_put (D := (dC, dI)) (ci := 7) (v := .int 1) (ty := .boolean) (C := RX9) (T := TX9) (N := 28) hx hb hts inX9 tyX9 tyX9_ok nmX9 hown hK hP hD hS 0 rfl rfl 16 (by decide) (hts _ (List.mem_of_getElem? (i := 1) rfl)) (fun _ h9 => h9) rfl (by decide +kernel) (by decide) rfl (Nat.le_of_ble_eq_true rfl) dX9_must_17 (fun H locs hP hD hS => ?_)
    have hP : va_P (dC, dI) vwCl [(h0, .inr (7, [v0, v1, v2, v3, v4, v5, v6, v7, v8, v9, v10, v11, v12, v13, v14, v15, .int 1, v17, v18, v19, v20, v21, v22, v23, v24, v25, v26, v27]))] H := hP
    have hD : va_D A [(h0, .inr (7, [v0, v1, v2, v3, v4, v5, v6, v7, v8, v9, v10, v11, v12, v13, v14, v15, .int 1, v17, v18, v19, v20, v21, v22, v23, v24, v25, v26, v27]))] := hD
    refine lv_aload_n hx hb dX9_must_20 rfl (lv_at hl 0 rfl) ?_
    refine va_get (D := (dC, dI)) (ci := 7) (v := .int 1) (C := RX9) (T := TX9) (N := 28) hx hb hts inX9 hown hK hP 0 rfl rfl 16 (by decide) (hts _ (List.mem_of_getElem? (i := 1) rfl)) (fun _ h9 => h9) rfl dX9_must_21 ?_
    refine lv_if_ne (tgt := 31) hx hb dX9_must_24 (by decide) (fun _ => ?_) (fun c => absurd c (by decide))
    have hP9 := hP.sub (ws' := [(h0, .inr (7, [v0, v1, v2, v3, v4, v5, v6, v7, v8, v9, v10, v11, v12, v13, v14, v15, .int 1, v17, v18, v19, v20, v21, v22, v23, v24, v25, v26, v27]))]) [0] rfl
    have hD9 := hD.sub (ws' := [(h0, .inr (7, [v0, v1, v2, v3, v4, v5, v6, v7, v8, v9, v10, v11, v12, v13, v14, v15, .int 1, v17, v18, v19, v20, v21, v22, v23, v24, v25, v26, v27]))]) [0] (by decide) rfl
    have hK9 := hK.sub (tys' := []) [] rfl
    exact W.vret hx hb hr (fun t ht hW => ⟨⟨(), rfl, trivial, by rw [ht]; exact hP9, va_K.moved hW.alike hK9, hD9⟩, hS.F ht⟩) hS.2.2 dX9_must_31
  · skip
    have tc_1 : iw.toInt = 0 := (fa_eq _ _).mp c_1
    refine lv_iload_n hx hb dX9_must_8 rfl (lv_at hl 1 rfl) ?_
    refine lv_if_ne (tgt := 16) hx hb dX9_must_9 (by decide) (fun c => absurd (by decide) c) (fun _ => ?_)
    refine lv_iconst (v := 1) hx hb dX9_must_12 (by decide) ?_
    refine lv_goto (tgt := 17) hx hb dX9_must_13 (by decide) ?_
    refine va_put (D := (dC, dI)) (ci := 7) (v := .int 1) (ty := .boolean) (C := RX9) (T := TX9) (N := 28) hx hb hts inX9 tyX9 tyX9_ok nmX9 hown hK hP hD hS 0 rfl rfl 16 (by decide) (hts _ (List.mem_of_getElem? (i := 1) rfl)) (fun _ h9 => h9) rfl (by decide +kernel) (by decide) rfl (Nat.le_of_ble_eq_true rfl) dX9_must_17 (fun H locs hP hD hS => ?_)
    have hP : va_P (dC, dI) vwCl [(h0, .inr (7, [v0, v1, v2, v3, v4, v5, v6, v7, v8, v9, v10, v11, v12, v13, v14, v15, .int 1, v17, v18, v19, v20, v21, v22, v23, v24, v25, v26, v27]))] H := hP
    have hD : va_D A [(h0, .inr (7, [v0, v1, v2, v3, v4, v5, v6, v7, v8, v9, v10, v11, v12, v13, v14, v15, .int 1, v17, v18, v19, v20, v21, v22, v23, v24, v25, v26, v27]))] := hD
    refine lv_aload_n hx hb dX9_must_20 rfl (lv_at hl 0 rfl) ?_
    refine va_get (D := (dC, dI)) (ci := 7) (v := .int 1) (C := RX9) (T := TX9) (N := 28) hx hb hts inX9 hown hK hP 0 rfl rfl 16 (by decide) (hts _ (List.mem_of_getElem? (i := 1) rfl)) (fun _ h9 => h9) rfl dX9_must_21 ?_
    refine lv_if_ne (tgt := 31) hx hb dX9_must_24 (by decide) (fun _ => ?_) (fun c => absurd c (by decide))
    have hP9 := hP.sub (ws' := [(h0, .inr (7, [v0, v1, v2, v3, v4, v5, v6, v7, v8, v9, v10, v11, v12, v13, v14, v15, .int 1, v17, v18, v19, v20, v21, v22, v23, v24, v25, v26, v27]))]) [0] rfl
    have hD9 := hD.sub (ws' := [(h0, .inr (7, [v0, v1, v2, v3, v4, v5, v6, v7, v8, v9, v10, v11, v12, v13, v14, v15, .int 1, v17, v18, v19, v20, v21, v22, v23, v24, v25, v26, v27]))]) [0] (by decide) rfl
    have hK9 := hK.sub (tys' := []) [] rfl
    exact W.vret hx hb hr (fun t ht hW => ⟨⟨(), rfl, trivial, by rw [ht]; exact hP9, va_K.moved hW.alike hK9, hD9⟩, hS.F ht⟩) hS.2.2 dX9_must_31

def w_m_mustw : List Cond := .code yX9_must cX9_must 2 none :: (([.fieldLink RX9 217 "LampShapesModel" "isWrong" "Z"] : List Cond) ++ wsX90)
set_option maxHeartbeats 4000000 in
set_option maxRecDepth 100000 in
theorem m_mustw (l : Launch) (dC : Nat → ClassId) (dI : Nat → Nat → Nat) (ad : Nat → Nat) (h0 : Nat) (iz : Int32) (v0 : Value) (v1 : Value) (v2 : Value) (v3 : Value) (v4 : Value) (v5 : Value) (v6 : Value) (v7 : Value) (v8 : Value) (v9 : Value) (v10 : Value) (v11 : Value) (v12 : Value) (v13 : Value) (v14 : Value) (v15 : Value) (v17 : Value) (v18 : Value) (v19 : Value) (v20 : Value) (v21 : Value) (v22 : Value) (v23 : Value) (v24 : Value) (v25 : Value) (v26 : Value) (v27 : Value) (sz : Nat) : Met l yX9_must w_m_mustw ({ frames := 0, cells := 0, slots := 0, locals := 0 } : Room) (va_Pc [.ref h0, .int iz] (preM dC dI ad [] [(h0, .inr (7, [v0, v1, v2, v3, v4, v5, v6, v7, v8, v9, v10, v11, v12, v13, v14, v15, .int 1, v17, v18, v19, v20, v21, v22, v23, v24, v25, v26, v27]))] sz)) (va_Qv (fun (_ : Unit) => True) (fun _ t => va_P (dC, dI) vwCl [(h0, .inr (7, [v0, v1, v2, v3, v4, v5, v6, v7, v8, v9, v10, v11, v12, v13, v14, v15, .int 1, v17, v18, v19, v20, v21, v22, v23, v24, v25, v26, v27]))] t.heap ∧ va_K (dC, dI) vwCl [] t ∧ va_D (va_A [(h0, .inr (7, [v0, v1, v2, v3, v4, v5, v6, v7, v8, v9, v10, v11, v12, v13, v14, v15, .int 1, v17, v18, v19, v20, v21, v22, v23, v24, v25, v26, v27]))] sz) [(h0, .inr (7, [v0, v1, v2, v3, v4, v5, v6, v7, v8, v9, v10, v11, v12, v13, v14, v15, .int 1, v17, v18, v19, v20, v21, v22, v23, v24, v25, v26, v27]))]) (va_A [(h0, .inr (7, [v0, v1, v2, v3, v4, v5, v6, v7, v8, v9, v10, v11, v12, v13, v14, v15, .int 1, v17, v18, v19, v20, v21, v22, v23, v24, v25, v26, v27]))] sz)) 0 0 (va_A [(h0, .inr (7, [v0, v1, v2, v3, v4, v5, v6, v7, v8, v9, v10, v11, v12, v13, v14, v15, .int 1, v17, v18, v19, v20, v21, v22, v23, v24, v25, v26, v27]))] sz) := by
  refine Met.ofW (cc := cX9_must) (maxL := 2) (ret := none) (by decide) rfl ?_
  intro p e s m args below meth c s₁ B hml hv
  obtain ⟨rfl, hsz, hP, hK, hD0, hev⟩ := hv
  have hx := B.exec
  have hb := B.bytes
  have hr := B.returns
  have hts := atoms_spec (ws := w_m_mustw) B.pre
  have hown : s.vm.findClass RX9 = some m.cls := findClass_of_methodNamed B.named
  have hlocks := B.notSynchronized
  have inX9 : ∀ w ∈ wsX90, w ∈ w_m_mustw := fun w h => List.mem_cons_of_mem _ (List.mem_append_right _ h)
  subst hsz
  have hD := hD0.self (sz := s.heap.size)
  generalize hAe : va_A [(h0, .inr (7, [v0, v1, v2, v3, v4, v5, v6, v7, v8, v9, v10, v11, v12, v13, v14, v15, .int 1, v17, v18, v19, v20, v21, v22, v23, v24, v25, v26, v27]))] s.heap.size = A at hD ⊢
  have hA : ∀ q : Nat, s.heap.size ≤ q → A q := fun q h => by rw [← hAe]; exact Or.inr h
  have hS : va_S A s.heap s.heap [] := va_S.rf
  have hP : va_P (dC, dI) vwCl [(h0, .inr (7, [v0, v1, v2, v3, v4, v5, v6, v7, v8, v9, v10, v11, v12, v13, v14, v15, .int 1, v17, v18, v19, v20, v21, v22, v23, v24, v25, v26, v27]))] s.heap := hP
  have hl := lv_entry ([.ref h0, .int iz]) (n := 2) (Nat.le_of_ble_eq_true rfl)
  rw [lg_entry_eq]
  generalize (lg_sl ([.ref h0, .int iz]) ++ List.replicate (2 - (lg_sl ([.ref h0, .int iz])).length) Slot.unset).toArray = ls at hl ⊢
  have hl : lv_has ls 2 [(0, .ref h0), (1, .int iz)] := hl
  refine lv_aload_n hx hb dX9_must_0 rfl (lv_at hl 0 rfl) ?_
  refine lv_aload_n hx hb dX9_must_1 rfl (lv_at hl 0 rfl) ?_
  refine va_get (D := (dC, dI)) (ci := 7) (v := .int 1) (C := RX9) (T := TX9) (N := 28) hx hb hts inX9 hown hK hP 0 rfl rfl 16 (by decide) (hts _ (List.mem_of_getElem? (i := 1) rfl)) (fun _ h9 => h9) rfl dX9_must_2 ?_
  refine lv_if_ne (tgt := 12) hx hb dX9_must_5 (by decide) (fun _ => ?_) (fun c => absurd c (by decide))
  refine lv_iconst (v := 1) hx hb dX9_must_12 (by decide) ?_
  refine lv_goto (tgt := 17) hx hb dX9_must_13 (by decide) ?_
  refine va_put (D := (dC, dI)) (ci := 7) (v := .int 1) (ty := .boolean) (C := RX9) (T := TX9) (N := 28) hx hb hts inX9 tyX9 tyX9_ok nmX9 hown hK hP hD hS 0 rfl rfl 16 (by decide) (hts _ (List.mem_of_getElem? (i := 1) rfl)) (fun _ h9 => h9) rfl (by decide +kernel) (by decide) rfl (Nat.le_of_ble_eq_true rfl) dX9_must_17 (fun H locs hP hD hS => ?_)
  have hP : va_P (dC, dI) vwCl [(h0, .inr (7, [v0, v1, v2, v3, v4, v5, v6, v7, v8, v9, v10, v11, v12, v13, v14, v15, .int 1, v17, v18, v19, v20, v21, v22, v23, v24, v25, v26, v27]))] H := hP
  have hD : va_D A [(h0, .inr (7, [v0, v1, v2, v3, v4, v5, v6, v7, v8, v9, v10, v11, v12, v13, v14, v15, .int 1, v17, v18, v19, v20, v21, v22, v23, v24, v25, v26, v27]))] := hD
  refine lv_aload_n hx hb dX9_must_20 rfl (lv_at hl 0 rfl) ?_
  refine va_get (D := (dC, dI)) (ci := 7) (v := .int 1) (C := RX9) (T := TX9) (N := 28) hx hb hts inX9 hown hK hP 0 rfl rfl 16 (by decide) (hts _ (List.mem_of_getElem? (i := 1) rfl)) (fun _ h9 => h9) rfl dX9_must_21 ?_
  refine lv_if_ne (tgt := 31) hx hb dX9_must_24 (by decide) (fun _ => ?_) (fun c => absurd c (by decide))
  have hP9 := hP.sub (ws' := [(h0, .inr (7, [v0, v1, v2, v3, v4, v5, v6, v7, v8, v9, v10, v11, v12, v13, v14, v15, .int 1, v17, v18, v19, v20, v21, v22, v23, v24, v25, v26, v27]))]) [0] rfl
  have hD9 := hD.sub (ws' := [(h0, .inr (7, [v0, v1, v2, v3, v4, v5, v6, v7, v8, v9, v10, v11, v12, v13, v14, v15, .int 1, v17, v18, v19, v20, v21, v22, v23, v24, v25, v26, v27]))]) [0] (by decide) rfl
  have hK9 := hK.sub (tys' := []) [] rfl
  exact W.vret hx hb hr (fun t ht hW => ⟨⟨(), rfl, trivial, by rw [ht]; exact hP9, va_K.moved hW.alike hK9, hD9⟩, hS.F ht⟩) hS.2.2 dX9_must_31

def w_m_must1 : List Cond := .code yX9_must cX9_must 2 none :: (([.fieldLink RX9 217 "LampShapesModel" "isWrong" "Z", .methodLink RX9 221 yX9_next, .instanceMethod yX9_next, .selects RX9 yX9_next yX9_next, .initialized RX9, .code yX9_next cX9_next 2 none, .fieldLink RX9 191 "LampShapesModel" "ends" "I", .fieldLink RX9 194 "LampShapesModel" "begins" "I", .methodLink RX9 197 yX9_byteAt, .instanceMethod yX9_byteAt, .selects RX9 yX9_byteAt yX9_byteAt, .code yX9_byteAt cX9_byteAt 2 (some .int), .fieldLink RX9 188 "LampShapesModel" "taped" "I", .fieldLink RX9 32 "LampShapesModel" "tape" "[I", .fieldLink RX9 200 "LampShapesModel" "value" "I", .methodLink RX9 75 yX9_within, .static yX9_within, .code yX9_within cX9_within 3 (some .boolean), .methodLink RX9 206 yX9_isRowSign, .static yX9_isRowSign, .code yX9_isRowSign cX9_isRowSign 1 (some .boolean), .fieldLink RX9 203 "LampShapesModel" "sort" "I", .methodLink RX9 171 Lib.Math.min.name, .static Lib.Math.min.name, .initialized "java/lang/Math", .code Lib.Math.min.name Lib.Math.min.code 2 (some .int)] : List Cond) ++ wsX90)
set_option maxRecDepth 20000 in
theorem g_m_must1_m_next_221 : GoodIn w_m_must1 (wsV RX9 221 RX9 yX9_next w_m_next) := goodIn_r _ [2, 3, 4, 5, 6, 7, 8, 9, 10, 11, 5, 12, 13, 14, 15, 16, 17, 18, 19, 20, 21, 22, 23, 24, 25, 26, 27, 28, 29, 30, 31, 32, 33, 34, 35, 36, 37, 38, 39, 40, 41, 42, 43, 44, 45, 46, 47, 48, 49, 50, 51, 52, 53, 54] rfl (by decide +kernel)
set_option maxHeartbeats 4000000 in
set_option maxRecDepth 100000 in
theorem m_must1 (l : Launch) (dC : Nat → ClassId) (dI : Nat → Nat → Nat) (ad : Nat → Nat) (h0 : Nat) (v0 : Value) (v1 : Value) (v2 : Value) (v3 : Value) (v4 : Value) (v5 : Value) (v6 : Value) (v7 : Value) (v8 : Value) (v9 : Value) (e0 : Nat) (ts : Int32) (bg : Int32) (en : Int32) (so : Int32) (va : Int32) (v17 : Value) (v18 : Value) (v19 : Value) (v20 : Value) (v21 : Value) (v22 : Value) (v23 : Value) (v24 : Value) (v25 : Value) (v26 : Value) (v27 : Value) (ec : ClassId) (ef : Nat → Int32) (sz : Nat) (htm : 0 ≤ ts.toInt ∧ ts.toInt ≤ 120) (hlx : 0 ≤ bg.toInt ∧ en.toInt ≤ ts.toInt ∧ bg.toInt ≤ en.toInt) (hso : (so.toInt = 1 ∨ so.toInt = 3) → bg.toInt + 1 ≤ en.toInt) (hva : 0 ≤ va.toInt ∧ va.toInt ≤ 10000) : Met l yX9_must w_m_must1 ({ frames := 2, cells := 0, slots := 0, locals := 43 } : Room) (va_Pc [.ref h0, .int 1] (preM dC dI ad [(ec, .int)] [(h0, .inr (7, [v0, v1, v2, v3, v4, v5, v6, v7, v8, v9, .ref e0, .int ts, .int bg, .int en, .int so, .int va, .int 0, v17, v18, v19, v20, v21, v22, v23, v24, v25, v26, v27])), (e0, .inl (ec, 120, .inl ef))] sz)) (va_Qv (fun (_ : Unit) => True) (fun _ t => ∃ (bg2 : Int32), ∃ (en2 : Int32), ∃ (so2 : Int32), ∃ (va2 : Int32), (0 ≤ bg2.toInt ∧ en2.toInt ≤ ts.toInt ∧ bg2.toInt ≤ en2.toInt) ∧ ((so2.toInt = 1 ∨ so2.toInt = 3) → bg2.toInt + 1 ≤ en2.toInt) ∧ (0 ≤ va2.toInt ∧ va2.toInt ≤ 10000) ∧ (en.toInt ≤ bg2.toInt) ∧ va_P (dC, dI) vwCl [(h0, .inr (7, [v0, v1, v2, v3, v4, v5, v6, v7, v8, v9, .ref e0, .int ts, .int bg2, .int en2, .int so2, .int va2, .int 0, v17, v18, v19, v20, v21, v22, v23, v24, v25, v26, v27])), (e0, .inl (ec, 120, .inl ef))] t.heap ∧ va_K (dC, dI) vwCl [(ec, .int)] t ∧ va_D (va_A [(h0, .inr (7, [v0, v1, v2, v3, v4, v5, v6, v7, v8, v9, .ref e0, .int ts, .int bg, .int en, .int so, .int va, .int 0, v17, v18, v19, v20, v21, v22, v23, v24, v25, v26, v27])), (e0, .inl (ec, 120, .inl ef))] sz) [(h0, .inr (7, [v0, v1, v2, v3, v4, v5, v6, v7, v8, v9, .ref e0, .int ts, .int bg2, .int en2, .int so2, .int va2, .int 0, v17, v18, v19, v20, v21, v22, v23, v24, v25, v26, v27])), (e0, .inl (ec, 120, .inl ef))]) (va_A [(h0, .inr (7, [v0, v1, v2, v3, v4, v5, v6, v7, v8, v9, .ref e0, .int ts, .int bg, .int en, .int so, .int va, .int 0, v17, v18, v19, v20, v21, v22, v23, v24, v25, v26, v27])), (e0, .inl (ec, 120, .inl ef))] sz)) 0 0 (va_A [(h0, .inr (7, [v0, v1, v2, v3, v4, v5, v6, v7, v8, v9, .ref e0, .int ts, .int bg, .int en, .int so, .int va, .int 0, v17, v18, v19, v20, v21, v22, v23, v24, v25, v26, v27])), (e0, .inl (ec, 120, .inl ef))] sz) := by
  refine Met.ofW (cc := cX9_must) (maxL := 2) (ret := none) (by decide) rfl ?_
  intro p e s m args below meth c s₁ B hml hv
  obtain ⟨rfl, hsz, hP, hK, hD0, hev⟩ := hv
  have hx := B.exec
  have hb := B.bytes
  have hr := B.returns
  have hts := atoms_spec (ws := w_m_must1) B.pre
  have hown : s.vm.findClass RX9 = some m.cls := findClass_of_methodNamed B.named
  have hlocks := B.notSynchronized
  have inX9 : ∀ w ∈ wsX90, w ∈ w_m_must1 := fun w h => List.mem_cons_of_mem _ (List.mem_append_right _ h)
  subst hsz
  have hD := hD0.self (sz := s.heap.size)
  generalize hAe : va_A [(h0, .inr (7, [v0, v1, v2, v3, v4, v5, v6, v7, v8, v9, .ref e0, .int ts, .int bg, .int en, .int so, .int va, .int 0, v17, v18, v19, v20, v21, v22, v23, v24, v25, v26, v27])), (e0, .inl (ec, 120, .inl ef))] s.heap.size = A at hD ⊢
  have hA : ∀ q : Nat, s.heap.size ≤ q → A q := fun q h => by rw [← hAe]; exact Or.inr h
  have hS : va_S A s.heap s.heap [] := va_S.rf
  have hP : va_P (dC, dI) vwCl [(h0, .inr (7, [v0, v1, v2, v3, v4, v5, v6, v7, v8, v9, .ref e0, .int ts, .int bg, .int en, .int so, .int va, .int 0, v17, v18, v19, v20, v21, v22, v23, v24, v25, v26, v27])), (e0, .inl (ec, 120, .inl ef))] s.heap := hP
  have hl := lv_entry ([.ref h0, .int 1]) (n := 2) (Nat.le_of_ble_eq_true rfl)
  rw [lg_entry_eq]
  generalize (lg_sl ([.ref h0, .int 1]) ++ List.replicate (2 - (lg_sl ([.ref h0, .int 1])).length) Slot.unset).toArray = ls at hl ⊢
  have hl : lv_has ls 2 [(0, .ref h0), (1, .int 1)] := hl
  refine lv_aload_n hx hb dX9_must_0 rfl (lv_at hl 0 rfl) ?_
  refine lv_aload_n hx hb dX9_must_1 rfl (lv_at hl 0 rfl) ?_
  refine va_get (D := (dC, dI)) (ci := 7) (v := .int 0) (C := RX9) (T := TX9) (N := 28) hx hb hts inX9 hown hK hP 0 rfl rfl 16 (by decide) (hts _ (List.mem_of_getElem? (i := 1) rfl)) (fun _ h9 => h9) rfl dX9_must_2 ?_
  refine lv_if_ne (tgt := 12) hx hb dX9_must_5 (by decide) (fun c => absurd (by decide) c) (fun _ => ?_)
  refine lv_iload_n hx hb dX9_must_8 rfl (lv_at hl 1 rfl) ?_
  refine lv_if_ne (tgt := 16) hx hb dX9_must_9 (by decide) (fun _ => ?_) (fun c => absurd c (by decide))
  refine lv_iconst (v := 0) hx hb dX9_must_16 (by decide) ?_
  refine va_put (D := (dC, dI)) (ci := 7) (v := .int 0) (ty := .boolean) (C := RX9) (T := TX9) (N := 28) hx hb hts inX9 tyX9 tyX9_ok nmX9 hown hK hP hD hS 0 rfl rfl 16 (by decide) (hts _ (List.mem_of_getElem? (i := 1) rfl)) (fun _ h9 => h9) rfl (by decide +kernel) (by decide) rfl (Nat.le_of_ble_eq_true rfl) dX9_must_17 (fun H locs hP hD hS => ?_)
  have hP : va_P (dC, dI) vwCl [(h0, .inr (7, [v0, v1, v2, v3, v4, v5, v6, v7, v8, v9, .ref e0, .int ts, .int bg, .int en, .int so, .int va, .int 0, v17, v18, v19, v20, v21, v22, v23, v24, v25, v26, v27])), (e0, .inl (ec, 120, .inl ef))] H := hP
  have hD : va_D A [(h0, .inr (7, [v0, v1, v2, v3, v4, v5, v6, v7, v8, v9, .ref e0, .int ts, .int bg, .int en, .int so, .int va, .int 0, v17, v18, v19, v20, v21, v22, v23, v24, v25, v26, v27])), (e0, .inl (ec, 120, .inl ef))] := hD
  refine lv_aload_n hx hb dX9_must_20 rfl (lv_at hl 0 rfl) ?_
  refine va_get (D := (dC, dI)) (ci := 7) (v := .int 0) (C := RX9) (T := TX9) (N := 28) hx hb hts inX9 hown hK hP 0 rfl rfl 16 (by decide) (hts _ (List.mem_of_getElem? (i := 1) rfl)) (fun _ h9 => h9) rfl dX9_must_21 ?_
  refine lv_if_ne (tgt := 31) hx hb dX9_must_24 (by decide) (fun c => absurd (by decide) c) (fun _ => ?_)
  refine lv_aload_n hx hb dX9_must_27 rfl (lv_at hl 0 rfl) ?_
  have hPc := hP.sub (ws' := [(h0, .inr (7, [v0, v1, v2, v3, v4, v5, v6, v7, v8, v9, .ref e0, .int ts, .int bg, .int en, .int so, .int va, .int 0, v17, v18, v19, v20, v21, v22, v23, v24, v25, v26, v27])), (e0, .inl (ec, 120, .inl ef))]) [0, 1] rfl
  have hKc := hK.sub (tys' := [(ec, .int)]) [0] rfl
  have hDc := hD.sub (ws' := [(h0, .inr (7, [v0, v1, v2, v3, v4, v5, v6, v7, v8, v9, .ref e0, .int ts, .int bg, .int en, .int so, .int va, .int 0, v17, v18, v19, v20, v21, v22, v23, v24, v25, v26, v27])), (e0, .inl (ec, 120, .inl ef))]) [0, 1] (by decide) rfl
  have hFc := va_free (wc := [(h0, .inr (7, [v0, v1, v2, v3, v4, v5, v6, v7, v8, v9, .ref e0, .int ts, .int bg, .int en, .int so, .int va, .int 0, v17, v18, v19, v20, v21, v22, v23, v24, v25, v26, v27])), (e0, .inl (ec, 120, .inl ef))]) hD hS hA [0, 1] rfl
  refine va_callv (va_runV (As := []) (rest := []) ⟨hx, hb, hml, hown, hts⟩ (m_next l dC dI ad h0 v0 v1 v2 v3 v4 v5 v6 v7 v8 v9 e0 ts bg en so va (.int 0) v17 v18 v19 v20 v21 v22 v23 v24 v25 v26 v27 ec ef H.size htm (by first | omega | decide | (simp only [fa_lt, fa_le, fa_eq, and_true, true_and, and_false, false_and, not_true_eq_false, not_false_eq_true, li_0, li_1, li_2, li_3, li_4, li_5, li_6, li_7, li_8, li_9, li_10, li_12, li_15, li_16, li_20, li_30, li_34, li_38, li_40, li_63, li_64, li_65, li_78, li_120, li_1000, li_4000, li_10000, li_11077, li_255, li_65535, li_m1, li_m2, li_m1000000001, li_m1000000002, li_m1000000003, li_m1000000004, li_m1000000005, li_m1000000006, li_m1000000007, or_true, true_or, or_false, false_or, implies_true, true_implies, false_implies] <;> omega))) (cwV 0 hts g_m_must1_m_next_221 rfl rfl rfl (by decide +kernel) ⟨(Nat.le_of_ble_eq_true rfl), (Nat.le_of_ble_eq_true rfl)⟩) ⟨preM_blind, va_recv hKc hPc (ci := 7) (q0 := 0) rfl rfl, fun U hU hW => ⟨rfl, preM_at hU hW hPc hKc hDc hev⟩⟩ rfl rfl hl.1 rfl (lv_room (Nat.le_of_ble_eq_true rfl)) dX9_must_28 ⟨(Nat.le_of_ble_eq_true rfl), (Nat.le_of_ble_eq_true rfl)⟩) hS (fun q _ h => hFc q h) hFc (fun u t H1 locs ht hvm hw hB hz1 hk1 hS => ?_)
  obtain ⟨bg_2, en_3, so_4, va_5, hq_6, hq_7, hq_8, hq_9, hP1, hK1, hD1⟩ := hB
  rw [ht] at hP1
  have hK1 := va_K.moved hvm.symm hK1
  obtain ⟨hP, hD⟩ := va_join (wr := []) (w1 := [(h0, .inr (7, [v0, v1, v2, v3, v4, v5, v6, v7, v8, v9, .ref e0, .int ts, .int bg_2, .int en_3, .int so_4, .int va_5, .int 0, v17, v18, v19, v20, v21, v22, v23, v24, v25, v26, v27])), (e0, .inl (ec, 120, .inl ef))]) hP hD [0, 1] [] rfl rfl (by decide) (by decide) hk1 hFc hP1 hD1
  generalize H1 = H at hP hS ⊢
  have hP : va_P (dC, dI) vwCl [(h0, .inr (7, [v0, v1, v2, v3, v4, v5, v6, v7, v8, v9, .ref e0, .int ts, .int bg_2, .int en_3, .int so_4, .int va_5, .int 0, v17, v18, v19, v20, v21, v22, v23, v24, v25, v26, v27])), (e0, .inl (ec, 120, .inl ef))] H := hP
  have hD : va_D A [(h0, .inr (7, [v0, v1, v2, v3, v4, v5, v6, v7, v8, v9, .ref e0, .int ts, .int bg_2, .int en_3, .int so_4, .int va_5, .int 0, v17, v18, v19, v20, v21, v22, v23, v24, v25, v26, v27])), (e0, .inl (ec, 120, .inl ef))] := hD
  have hP9 := hP.sub (ws' := [(h0, .inr (7, [v0, v1, v2, v3, v4, v5, v6, v7, v8, v9, .ref e0, .int ts, .int bg_2, .int en_3, .int so_4, .int va_5, .int 0, v17, v18, v19, v20, v21, v22, v23, v24, v25, v26, v27])), (e0, .inl (ec, 120, .inl ef))]) [0, 1] rfl
  have hD9 := hD.sub (ws' := [(h0, .inr (7, [v0, v1, v2, v3, v4, v5, v6, v7, v8, v9, .ref e0, .int ts, .int bg_2, .int en_3, .int so_4, .int va_5, .int 0, v17, v18, v19, v20, v21, v22, v23, v24, v25, v26, v27])), (e0, .inl (ec, 120, .inl ef))]) [0, 1] (by decide) rfl
  have hK9 := hK.sub (tys' := [(ec, .int)]) [0] rfl
  exact W.vret hx hb hr (fun t ht hW => ⟨⟨(), rfl, trivial, bg_2, en_3, so_4, va_5, hq_6, hq_7, hq_8, hq_9, by rw [ht]; exact hP9, va_K.moved hW.alike hK9, hD9⟩, hS.F ht⟩) hS.2.2 dX9_must_31

def w_m_number : List Cond := .code yX9_number cX9_number 4 (some .int) :: (([.fieldLink RX9 200 "LampShapesModel" "value" "I", .fieldLink RX9 203 "LampShapesModel" "sort" "I", .methodLink RX9 224 yX9_must, .instanceMethod yX9_must, .selects RX9 yX9_must yX9_must, .initialized RX9, .code yX9_must cX9_must 2 none, .fieldLink RX9 217 "LampShapesModel" "isWrong" "Z", .methodLink RX9 75 yX9_within, .static yX9_within, .code yX9_within cX9_within 3 (some .boolean), .methodLink RX9 221 yX9_next, .instanceMethod yX9_next, .selects RX9 yX9_next yX9_next, .code yX9_next cX9_next 2 none, .fieldLink RX9 191 "LampShapesModel" "ends" "I", .fieldLink RX9 194 "LampShapesModel" "begins" "I", .methodLink RX9 197 yX9_byteAt, .instanceMethod yX9_byteAt, .selects RX9 yX9_byteAt yX9_byteAt, .code yX9_byteAt cX9_byteAt 2 (some .int), .fieldLink RX9 188 "LampShapesModel" "taped" "I", .fieldLink RX9 32 "LampShapesModel" "tape" "[I", .methodLink RX9 206 yX9_isRowSign, .static yX9_isRowSign, .code yX9_isRowSign cX9_isRowSign 1 (some .boolean), .methodLink RX9 171 Lib.Math.min.name, .static Lib.Math.min.name, .initialized "java/lang/Math", .code Lib.Math.min.name Lib.Math.min.code 2 (some .int)] : List Cond) ++ wsX90)
set_option maxRecDepth 20000 in
theorem g_m_number_m_must0_224 : GoodIn w_m_number (wsV RX9 224 RX9 yX9_must w_m_must0) := goodIn_r _ [3, 4, 5, 6, 7, 8, 31, 32, 33, 34, 35, 36, 37, 38, 39, 40, 41, 42, 43, 44, 45, 46, 47, 48, 49, 50, 51, 52, 53, 54, 55, 56, 57, 58] rfl (by decide +kernel)
set_option maxRecDepth 20000 in
theorem g_m_number_m_within_75 : GoodIn w_m_number (va_wsS RX9 75 yX9_within w_m_within) := goodIn_r _ [9, 10, 6, 11] rfl (by decide +kernel)
set_option maxRecDepth 20000 in
theorem g_m_number_m_must1g_224 : GoodIn w_m_number (wsV RX9 224 RX9 yX9_must w_m_must1g) := goodIn_r _ [3, 4, 5, 6, 7, 8, 12, 13, 14, 6, 15, 16, 17, 18, 19, 20, 21, 22, 23, 1, 9, 10, 11, 24, 25, 26, 2, 27, 28, 29, 30, 31, 32, 33, 34, 35, 36, 37, 38, 39, 40, 41, 42, 43, 44, 45, 46, 47, 48, 49, 50, 51, 52, 53, 54, 55, 56, 57, 58] rfl (by decide +kernel)
set_option maxHeartbeats 4000000 in
set_option maxRecDepth 100000 in
theorem m_number (l : Launch) (dC : Nat → ClassId) (dI : Nat → Nat → Nat) (ad : Nat → Nat) (h0 : Nat) (lo : Int32) (hi : Int32) (v0 : Value) (v1 : Value) (v2 : Value) (v3 : Value) (v4 : Value) (v5 : Value) (v6 : Value) (v7 : Value) (v8 : Value) (v9 : Value) (e0 : Nat) (ts : Int32) (bg : Int32) (en : Int32) (so : Int32) (va : Int32) (iw : Int32) (v17 : Value) (v18 : Value) (v19 : Value) (v20 : Value) (v21 : Value) (v22 : Value) (v23 : Value) (v24 : Value) (v25 : Value) (v26 : Value) (v27 : Value) (ec : ClassId) (ef : Nat → Int32) (sz : Nat) (htm : 0 ≤ ts.toInt ∧ ts.toInt ≤ 120) (hlx : 0 ≤ bg.toInt ∧ en.toInt ≤ ts.toInt ∧ bg.toInt ≤ en.toInt) (hso : (so.toInt = 1 ∨ so.toInt = 3) → bg.toInt + 1 ≤ en.toInt) (hva : 0 ≤ va.toInt ∧ va.toInt ≤ 10000) : Met l yX9_number w_m_number ({ frames := 3, cells := 0, slots := 0, locals := 64 } : Room) (va_Pc [.ref h0, .int lo, .int hi] (preM dC dI ad [(ec, .int)] [(h0, .inr (7, [v0, v1, v2, v3, v4, v5, v6, v7, v8, v9, .ref e0, .int ts, .int bg, .int en, .int so, .int va, .int iw, v17, v18, v19, v20, v21, v22, v23, v24, v25, v26, v27])), (e0, .inl (ec, 120, .inl ef))] sz)) (va_Qi (fun (r : Int32) (_ : Unit) => r.toInt = va.toInt) (fun _ t => ∃ (bg2 : Int32), ∃ (en2 : Int32), ∃ (so2 : Int32), ∃ (va2 : Int32), ∃ (iw2 : Int32), (0 ≤ bg2.toInt ∧ en2.toInt ≤ ts.toInt ∧ bg2.toInt ≤ en2.toInt) ∧ ((so2.toInt = 1 ∨ so2.toInt = 3) → bg2.toInt + 1 ≤ en2.toInt) ∧ (0 ≤ va2.toInt ∧ va2.toInt ≤ 10000) ∧ (iw2.toInt = 0 ∨ iw2.toInt = 1) ∧ (iw2.toInt = 0 → iw.toInt = 0 ∧ lo.toInt ≤ va.toInt ∧ va.toInt ≤ hi.toInt ∧ en.toInt ≤ bg2.toInt) ∧ va_P (dC, dI) vwCl [(h0, .inr (7, [v0, v1, v2, v3, v4, v5, v6, v7, v8, v9, .ref e0, .int ts, .int bg2, .int en2, .int so2, .int va2, .int iw2, v17, v18, v19, v20, v21, v22, v23, v24, v25, v26, v27])), (e0, .inl (ec, 120, .inl ef))] t.heap ∧ va_K (dC, dI) vwCl [(ec, .int)] t ∧ va_D (va_A [(h0, .inr (7, [v0, v1, v2, v3, v4, v5, v6, v7, v8, v9, .ref e0, .int ts, .int bg, .int en, .int so, .int va, .int iw, v17, v18, v19, v20, v21, v22, v23, v24, v25, v26, v27])), (e0, .inl (ec, 120, .inl ef))] sz) [(h0, .inr (7, [v0, v1, v2, v3, v4, v5, v6, v7, v8, v9, .ref e0, .int ts, .int bg2, .int en2, .int so2, .int va2, .int iw2, v17, v18, v19, v20, v21, v22, v23, v24, v25, v26, v27])), (e0, .inl (ec, 120, .inl ef))]) (va_A [(h0, .inr (7, [v0, v1, v2, v3, v4, v5, v6, v7, v8, v9, .ref e0, .int ts, .int bg, .int en, .int so, .int va, .int iw, v17, v18, v19, v20, v21, v22, v23, v24, v25, v26, v27])), (e0, .inl (ec, 120, .inl ef))] sz)) 0 0 (va_A [(h0, .inr (7, [v0, v1, v2, v3, v4, v5, v6, v7, v8, v9, .ref e0, .int ts, .int bg, .int en, .int so, .int va, .int iw, v17, v18, v19, v20, v21, v22, v23, v24, v25, v26, v27])), (e0, .inl (ec, 120, .inl ef))] sz) := by
  refine Met.ofW (cc := cX9_number) (maxL := 4) (ret := (some .int)) (by decide) rfl ?_
  intro p e s m args below meth c s₁ B hml hv
  obtain ⟨rfl, hsz, hP, hK, hD0, hev⟩ := hv
  have hx := B.exec
  have hb := B.bytes
  have hr := B.returns
  have hts := atoms_spec (ws := w_m_number) B.pre
  have hown : s.vm.findClass RX9 = some m.cls := findClass_of_methodNamed B.named
  have hlocks := B.notSynchronized
  have inX9 : ∀ w ∈ wsX90, w ∈ w_m_number := fun w h => List.mem_cons_of_mem _ (List.mem_append_right _ h)
  subst hsz
  have hD := hD0.self (sz := s.heap.size)
  generalize hAe : va_A [(h0, .inr (7, [v0, v1, v2, v3, v4, v5, v6, v7, v8, v9, .ref e0, .int ts, .int bg, .int en, .int so, .int va, .int iw, v17, v18, v19, v20, v21, v22, v23, v24, v25, v26, v27])), (e0, .inl (ec, 120, .inl ef))] s.heap.size = A at hD ⊢
  have hA : ∀ q : Nat, s.heap.size ≤ q → A q := fun q h => by rw [← hAe]; exact Or.inr h
  have hS : va_S A s.heap s.heap [] := va_S.rf
  have hP : va_P (dC, dI) vwCl [(h0, .inr (7, [v0, v1, v2, v3, v4, v5, v6, v7, v8, v9, .ref e0, .int ts, .int bg, .int en, .int so, .int va, .int iw, v17, v18, v19, v20, v21, v22, v23, v24, v25, v26, v27])), (e0, .inl (ec, 120, .inl ef))] s.heap := hP
  have hl := lv_entry ([.ref h0, .int lo, .int hi]) (n := 4) (Nat.le_of_ble_eq_true rfl)
  rw [lg_entry_eq]
  generalize (lg_sl ([.ref h0, .int lo, .int hi]) ++ List.replicate (4 - (lg_sl ([.ref h0, .int lo, .int hi])).length) Slot.unset).toArray = ls at hl ⊢
  have hl : lv_has ls 4 [(0, .ref h0), (1, .int lo), (2, .int hi)] := hl
  refine lv_aload_n hx hb dX9_number_0 rfl (lv_at hl 0 rfl) ?_
  refine va_get (D := (dC, dI)) (ci := 7) (v := .int va) (C := RX9) (T := TX9) (N := 28) hx hb hts inX9 hown hK hP 0 rfl rfl 15 (by decide) (hts _ (List.mem_of_getElem? (i := 1) rfl)) (fun _ h9 => h9) rfl dX9_number_1 ?_
  refine lv_istore_n (lv' := [(3, .int va), (0, .ref h0), (1, .int lo), (2, .int hi)]) hx hb dX9_number_4 rfl hl (by decide) rfl (fun ls hl => ?_)
  refine lv_aload_n hx hb dX9_number_5 rfl (lv_at hl 1 rfl) ?_
  refine lv_aload_n hx hb dX9_number_6 rfl (lv_at hl 1 rfl) ?_
  refine va_get (D := (dC, dI)) (ci := 7) (v := .int so) (C := RX9) (T := TX9) (N := 28) hx hb hts inX9 hown hK hP 0 rfl rfl 14 (by decide) (hts _ (List.mem_of_getElem? (i := 2) rfl)) (fun _ h9 => h9) rfl dX9_number_7 ?_
  refine lv_iconst (v := 2) hx hb dX9_number_10 (by decide) ?_
  refine lv_icmp_ne (tgt := 27) hx hb dX9_number_11 (by decide) (fun c_1 => ?_) (fun c_1 => ?_)
  · skip
    have tc_1 : ¬ so.toInt = 2 := fun h => c_1 ((fa_eq _ _).mpr h)
    refine lv_iconst (v := 0) hx hb dX9_number_27 (by decide) ?_
    have hPc := hP.sub (ws' := [(h0, .inr (7, [v0, v1, v2, v3, v4, v5, v6, v7, v8, v9, .ref e0, .int ts, .int bg, .int en, .int so, .int va, .int iw, v17, v18, v19, v20, v21, v22, v23, v24, v25, v26, v27]))]) [0] rfl
    have hKc := hK.sub (tys' := []) [] rfl
    have hDc := hD.sub (ws' := [(h0, .inr (7, [v0, v1, v2, v3, v4, v5, v6, v7, v8, v9, .ref e0, .int ts, .int bg, .int en, .int so, .int va, .int iw, v17, v18, v19, v20, v21, v22, v23, v24, v25, v26, v27]))]) [0] (by decide) rfl
    have hFc := va_free (wc := [(h0, .inr (7, [v0, v1, v2, v3, v4, v5, v6, v7, v8, v9, .ref e0, .int ts, .int bg, .int en, .int so, .int va, .int iw, v17, v18, v19, v20, v21, v22, v23, v24, v25, v26, v27]))]) hD hS hA [0] rfl
    refine va_callv (va_runV (As := [.int 0]) (rest := []) ⟨hx, hb, hml, hown, hts⟩ (m_must0 l dC dI ad h0 v0 v1 v2 v3 v4 v5 v6 v7 v8 v9 (.ref e0) (.int ts) (.int bg) (.int en) (.int so) (.int va) iw v17 v18 v19 v20 v21 v22 v23 v24 v25 v26 v27 s.heap.size ) (cwV 1 hts g_m_number_m_must0_224 rfl rfl rfl (by decide +kernel) ⟨(Nat.le_of_ble_eq_true rfl), (Nat.le_of_ble_eq_true rfl)⟩) ⟨preM_blind, va_recv hKc hPc (ci := 7) (q0 := 0) rfl rfl, fun U hU hW => ⟨rfl, preM_at hU hW hPc hKc hDc hev⟩⟩ rfl rfl hl.1 rfl (lv_room (Nat.le_of_ble_eq_true rfl)) dX9_number_28 ⟨(Nat.le_of_ble_eq_true rfl), (Nat.le_of_ble_eq_true rfl)⟩) hS (fun q _ h => hFc q h) hFc (fun u t H1 locs ht hvm hw hB hz1 hk1 hS => ?_)
    obtain ⟨hP1, hK1, hD1⟩ := hB
    rw [ht] at hP1
    have hK1 := va_K.moved hvm.symm hK1
    obtain ⟨hP, hD⟩ := va_join (wr := [(e0, .inl (ec, 120, .inl ef))]) (w1 := [(h0, .inr (7, [v0, v1, v2, v3, v4, v5, v6, v7, v8, v9, .ref e0, .int ts, .int bg, .int en, .int so, .int va, .int 1, v17, v18, v19, v20, v21, v22, v23, v24, v25, v26, v27]))]) hP hD [0] [1] rfl rfl (by decide) (by decide) hk1 hFc hP1 hD1
    generalize H1 = H at hP hS ⊢
    have hP : va_P (dC, dI) vwCl [(e0, .inl (ec, 120, .inl ef)), (h0, .inr (7, [v0, v1, v2, v3, v4, v5, v6, v7, v8, v9, .ref e0, .int ts, .int bg, .int en, .int so, .int va, .int 1, v17, v18, v19, v20, v21, v22, v23, v24, v25, v26, v27]))] H := hP
    have hD : va_D A [(e0, .inl (ec, 120, .inl ef)), (h0, .inr (7, [v0, v1, v2, v3, v4, v5, v6, v7, v8, v9, .ref e0, .int ts, .int bg, .int en, .int so, .int va, .int 1, v17, v18, v19, v20, v21, v22, v23, v24, v25, v26, v27]))] := hD
    refine lv_iload_n hx hb dX9_number_31 rfl (lv_at hl 0 rfl) ?_
    have hP9 := hP.sub (ws' := [(h0, .inr (7, [v0, v1, v2, v3, v4, v5, v6, v7, v8, v9, .ref e0, .int ts, .int bg, .int en, .int so, .int va, .int 1, v17, v18, v19, v20, v21, v22, v23, v24, v25, v26, v27])), (e0, .inl (ec, 120, .inl ef))]) [1, 0] rfl
    have hD9 := hD.sub (ws' := [(h0, .inr (7, [v0, v1, v2, v3, v4, v5, v6, v7, v8, v9, .ref e0, .int ts, .int bg, .int en, .int so, .int va, .int 1, v17, v18, v19, v20, v21, v22, v23, v24, v25, v26, v27])), (e0, .inl (ec, 120, .inl ef))]) [1, 0] (by decide) rfl
    have hK9 := hK.sub (tys' := [(ec, .int)]) [0] rfl
    exact W.iret (v := va) hx hb hr (fun t ht hW => ⟨⟨va, (), rfl, (by first | omega | decide | (simp only [fa_lt, fa_le, fa_eq, and_true, true_and, and_false, false_and, not_true_eq_false, not_false_eq_true, li_0, li_1, li_2, li_3, li_4, li_5, li_6, li_7, li_8, li_9, li_10, li_12, li_15, li_16, li_20, li_30, li_34, li_38, li_40, li_63, li_64, li_65, li_78, li_120, li_1000, li_4000, li_10000, li_11077, li_255, li_65535, li_m1, li_m2, li_m1000000001, li_m1000000002, li_m1000000003, li_m1000000004, li_m1000000005, li_m1000000006, li_m1000000007, or_true, true_or, or_false, false_or, implies_true, true_implies, false_implies] <;> omega)), bg, en, so, va, 1, hlx, hso, hva, (by first | omega | decide | (simp only [fa_lt, fa_le, fa_eq, and_true, true_and, and_false, false_and, not_true_eq_false, not_false_eq_true, li_0, li_1, li_2, li_3, li_4, li_5, li_6, li_7, li_8, li_9, li_10, li_12, li_15, li_16, li_20, li_30, li_34, li_38, li_40, li_63, li_64, li_65, li_78, li_120, li_1000, li_4000, li_10000, li_11077, li_255, li_65535, li_m1, li_m2, li_m1000000001, li_m1000000002, li_m1000000003, li_m1000000004, li_m1000000005, li_m1000000006, li_m1000000007, or_true, true_or, or_false, false_or, implies_true, true_implies, false_implies] <;> omega)), (by first | omega | decide | (simp only [fa_lt, fa_le, fa_eq, and_true, true_and, and_false, false_and, not_true_eq_false, not_false_eq_true, li_0, li_1, li_2, li_3, li_4, li_5, li_6, li_7, li_8, li_9, li_10, li_12, li_15, li_16, li_20, li_30, li_34, li_38, li_40, li_63, li_64, li_65, li_78, li_120, li_1000, li_4000, li_10000, li_11077, li_255, li_65535, li_m1, li_m2, li_m1000000001, li_m1000000002, li_m1000000003, li_m1000000004, li_m1000000005, li_m1000000006, li_m1000000007, or_true, true_or, or_false, false_or, implies_true, true_implies, false_implies] <;> omega)), by rw [ht]; exact hP9, va_K.moved hW.alike hK9, hD9⟩, hS.F ht⟩) hS.2.2 dX9_number_32
  · skip
    have tc_1 : so.toInt = 2 := (fa_eq _ _).mp c_1
    refine lv_iload_n hx hb dX9_number_14 rfl (lv_at hl 0 rfl) ?_
    refine lv_iload_n hx hb dX9_number_15 rfl (lv_at hl 2 rfl) ?_
    refine lv_iload_n hx hb dX9_number_16 rfl (lv_at hl 3 rfl) ?_
    have hPc := hP.sub (ws' := []) [] rfl
    have hKc := hK.sub (tys' := []) [] rfl
    refine vp_callSi (W.runS (As := [.int va, .int lo, .int hi]) (rest := [.ref h0]) ⟨hx, hb, hml, hown, hts⟩ (m_within l dC dI ad va lo hi ) (va_cwS 3 hts g_m_number_m_within_75 rfl rfl rfl (by decide +kernel) ⟨(Nat.le_of_ble_eq_true rfl), (Nat.le_of_ble_eq_true rfl)⟩) ⟨preS_blind, fun U hU hW => ⟨rfl, preS_at hU hW hPc hKc hev⟩⟩ rfl rfl hl.1 rfl (lv_room (Nat.le_of_ble_eq_true rfl)) dX9_number_17 ⟨(Nat.le_of_ble_eq_true rfl), (Nat.le_of_ble_eq_true rfl)⟩) (fun r_3 hw => ?_)
    have hr_3 : (r_3.toInt = 1 ∧ lo.toInt ≤ va.toInt ∧ va.toInt ≤ hi.toInt) ∨ (r_3.toInt = 0 ∧ ¬ (lo.toInt ≤ va.toInt ∧ va.toInt ≤ hi.toInt)) := hw
    refine lv_if_eq (tgt := 27) hx hb dX9_number_20 (by decide) (fun c_4 => ?_) (fun c_4 => ?_)
    · skip
      have tc_4 : r_3.toInt = 0 := (fa_eq _ _).mp c_4
      refine lv_iconst (v := 0) hx hb dX9_number_27 (by decide) ?_
      have hPc := hP.sub (ws' := [(h0, .inr (7, [v0, v1, v2, v3, v4, v5, v6, v7, v8, v9, .ref e0, .int ts, .int bg, .int en, .int so, .int va, .int iw, v17, v18, v19, v20, v21, v22, v23, v24, v25, v26, v27]))]) [0] rfl
      have hKc := hK.sub (tys' := []) [] rfl
      have hDc := hD.sub (ws' := [(h0, .inr (7, [v0, v1, v2, v3, v4, v5, v6, v7, v8, v9, .ref e0, .int ts, .int bg, .int en, .int so, .int va, .int iw, v17, v18, v19, v20, v21, v22, v23, v24, v25, v26, v27]))]) [0] (by decide) rfl
      have hFc := va_free (wc := [(h0, .inr (7, [v0, v1, v2, v3, v4, v5, v6, v7, v8, v9, .ref e0, .int ts, .int bg, .int en, .int so, .int va, .int iw, v17, v18, v19, v20, v21, v22, v23, v24, v25, v26, v27]))]) hD hS hA [0] rfl
      refine va_callv (va_runV (As := [.int 0]) (rest := []) ⟨hx, hb, hml, hown, hts⟩ (m_must0 l dC dI ad h0 v0 v1 v2 v3 v4 v5 v6 v7 v8 v9 (.ref e0) (.int ts) (.int bg) (.int en) (.int so) (.int va) iw v17 v18 v19 v20 v21 v22 v23 v24 v25 v26 v27 s.heap.size ) (cwV 1 hts g_m_number_m_must0_224 rfl rfl rfl (by decide +kernel) ⟨(Nat.le_of_ble_eq_true rfl), (Nat.le_of_ble_eq_true rfl)⟩) ⟨preM_blind, va_recv hKc hPc (ci := 7) (q0 := 0) rfl rfl, fun U hU hW => ⟨rfl, preM_at hU hW hPc hKc hDc hev⟩⟩ rfl rfl hl.1 rfl (lv_room (Nat.le_of_ble_eq_true rfl)) dX9_number_28 ⟨(Nat.le_of_ble_eq_true rfl), (Nat.le_of_ble_eq_true rfl)⟩) hS (fun q _ h => hFc q h) hFc (fun u t H1 locs ht hvm hw hB hz1 hk1 hS => ?_)
      obtain ⟨hP1, hK1, hD1⟩ := hB
      rw [ht] at hP1
      have hK1 := va_K.moved hvm.symm hK1
      obtain ⟨hP, hD⟩ := va_join (wr := [(e0, .inl (ec, 120, .inl ef))]) (w1 := [(h0, .inr (7, [v0, v1, v2, v3, v4, v5, v6, v7, v8, v9, .ref e0, .int ts, .int bg, .int en, .int so, .int va, .int 1, v17, v18, v19, v20, v21, v22, v23, v24, v25, v26, v27]))]) hP hD [0] [1] rfl rfl (by decide) (by decide) hk1 hFc hP1 hD1
      generalize H1 = H at hP hS ⊢
      have hP : va_P (dC, dI) vwCl [(e0, .inl (ec, 120, .inl ef)), (h0, .inr (7, [v0, v1, v2, v3, v4, v5, v6, v7, v8, v9, .ref e0, .int ts, .int bg, .int en, .int so, .int va, .int 1, v17, v18, v19, v20, v21, v22, v23, v24, v25, v26, v27]))] H := hP
      have hD : va_D A [(e0, .inl (ec, 120, .inl ef)), (h0, .inr (7, [v0, v1, v2, v3, v4, v5, v6, v7, v8, v9, .ref e0, .int ts, .int bg, .int en, .int so, .int va, .int 1, v17, v18, v19, v20, v21, v22, v23, v24, v25, v26, v27]))] := hD
      refine lv_iload_n hx hb dX9_number_31 rfl (lv_at hl 0 rfl) ?_
      have hP9 := hP.sub (ws' := [(h0, .inr (7, [v0, v1, v2, v3, v4, v5, v6, v7, v8, v9, .ref e0, .int ts, .int bg, .int en, .int so, .int va, .int 1, v17, v18, v19, v20, v21, v22, v23, v24, v25, v26, v27])), (e0, .inl (ec, 120, .inl ef))]) [1, 0] rfl
      have hD9 := hD.sub (ws' := [(h0, .inr (7, [v0, v1, v2, v3, v4, v5, v6, v7, v8, v9, .ref e0, .int ts, .int bg, .int en, .int so, .int va, .int 1, v17, v18, v19, v20, v21, v22, v23, v24, v25, v26, v27])), (e0, .inl (ec, 120, .inl ef))]) [1, 0] (by decide) rfl
      have hK9 := hK.sub (tys' := [(ec, .int)]) [0] rfl
      exact W.iret (v := va) hx hb hr (fun t ht hW => ⟨⟨va, (), rfl, (by first | omega | decide | (simp only [fa_lt, fa_le, fa_eq, and_true, true_and, and_false, false_and, not_true_eq_false, not_false_eq_true, li_0, li_1, li_2, li_3, li_4, li_5, li_6, li_7, li_8, li_9, li_10, li_12, li_15, li_16, li_20, li_30, li_34, li_38, li_40, li_63, li_64, li_65, li_78, li_120, li_1000, li_4000, li_10000, li_11077, li_255, li_65535, li_m1, li_m2, li_m1000000001, li_m1000000002, li_m1000000003, li_m1000000004, li_m1000000005, li_m1000000006, li_m1000000007, or_true, true_or, or_false, false_or, implies_true, true_implies, false_implies] <;> omega)), bg, en, so, va, 1, hlx, hso, hva, (by first | omega | decide | (simp only [fa_lt, fa_le, fa_eq, and_true, true_and, and_false, false_and, not_true_eq_false, not_false_eq_true, li_0, li_1, li_2, li_3, li_4, li_5, li_6, li_7, li_8, li_9, li_10, li_12, li_15, li_16, li_20, li_30, li_34, li_38, li_40, li_63, li_64, li_65, li_78, li_120, li_1000, li_4000, li_10000, li_11077, li_255, li_65535, li_m1, li_m2, li_m1000000001, li_m1000000002, li_m1000000003, li_m1000000004, li_m1000000005, li_m1000000006, li_m1000000007, or_true, true_or, or_false, false_or, implies_true, true_implies, false_implies] <;> omega)), (by first | omega | decide | (simp only [fa_lt, fa_le, fa_eq, and_true, true_and, and_false, false_and, not_true_eq_false, not_false_eq_true, li_0, li_1, li_2, li_3, li_4, li_5, li_6, li_7, li_8, li_9, li_10, li_12, li_15, li_16, li_20, li_30, li_34, li_38, li_40, li_63, li_64, li_65, li_78, li_120, li_1000, li_4000, li_10000, li_11077, li_255, li_65535, li_m1, li_m2, li_m1000000001, li_m1000000002, li_m1000000003, li_m1000000004, li_m1000000005, li_m1000000006, li_m1000000007, or_true, true_or, or_false, false_or, implies_true, true_implies, false_implies] <;> omega)), by rw [ht]; exact hP9, va_K.moved hW.alike hK9, hD9⟩, hS.F ht⟩) hS.2.2 dX9_number_32
    · skip
      have tc_4 : ¬ r_3.toInt = 0 := fun h => c_4 ((fa_eq _ _).mpr h)
      have i_6 : lo.toInt ≤ va.toInt ∧ va.toInt ≤ hi.toInt := by omega
      refine lv_iconst (v := 1) hx hb dX9_number_23 (by decide) ?_
      refine lv_goto (tgt := 28) hx hb dX9_number_24 (by decide) ?_
      have hPc := hP.sub (ws' := [(h0, .inr (7, [v0, v1, v2, v3, v4, v5, v6, v7, v8, v9, .ref e0, .int ts, .int bg, .int en, .int so, .int va, .int iw, v17, v18, v19, v20, v21, v22, v23, v24, v25, v26, v27])), (e0, .inl (ec, 120, .inl ef))]) [0, 1] rfl
      have hKc := hK.sub (tys' := [(ec, .int)]) [0] rfl
      have hDc := hD.sub (ws' := [(h0, .inr (7, [v0, v1, v2, v3, v4, v5, v6, v7, v8, v9, .ref e0, .int ts, .int bg, .int en, .int so, .int va, .int iw, v17, v18, v19, v20, v21, v22, v23, v24, v25, v26, v27])), (e0, .inl (ec, 120, .inl ef))]) [0, 1] (by decide) rfl
      have hFc := va_free (wc := [(h0, .inr (7, [v0, v1, v2, v3, v4, v5, v6, v7, v8, v9, .ref e0, .int ts, .int bg, .int en, .int so, .int va, .int iw, v17, v18, v19, v20, v21, v22, v23, v24, v25, v26, v27])), (e0, .inl (ec, 120, .inl ef))]) hD hS hA [0, 1] rfl
      refine va_callv (va_runV (As := [.int 1]) (rest := []) ⟨hx, hb, hml, hown, hts⟩ (m_must1g l dC dI ad h0 v0 v1 v2 v3 v4 v5 v6 v7 v8 v9 e0 ts bg en so va iw v17 v18 v19 v20 v21 v22 v23 v24 v25 v26 v27 ec ef s.heap.size htm hlx hso hva) (cwV 1 hts g_m_number_m_must1g_224 rfl rfl rfl (by decide +kernel) ⟨(Nat.le_of_ble_eq_true rfl), (Nat.le_of_ble_eq_true rfl)⟩) ⟨preM_blind, va_recv hKc hPc (ci := 7) (q0 := 0) rfl rfl, fun U hU hW => ⟨rfl, preM_at hU hW hPc hKc hDc hev⟩⟩ rfl rfl hl.1 rfl (lv_room (Nat.le_of_ble_eq_true rfl)) dX9_number_28 ⟨(Nat.le_of_ble_eq_true rfl), (Nat.le_of_ble_eq_true rfl)⟩) hS (fun q _ h => hFc q h) hFc (fun u t H1 locs ht hvm hw hB hz1 hk1 hS => ?_)
      obtain ⟨bg_8, en_9, so_10, va_11, iw_12, hq_13, hq_14, hq_15, hq_16, hq_17, hP1, hK1, hD1⟩ := hB
      rw [ht] at hP1
      have hK1 := va_K.moved hvm.symm hK1
      obtain ⟨hP, hD⟩ := va_join (wr := []) (w1 := [(h0, .inr (7, [v0, v1, v2, v3, v4, v5, v6, v7, v8, v9, .ref e0, .int ts, .int bg_8, .int en_9, .int so_10, .int va_11, .int iw_12, v17, v18, v19, v20, v21, v22, v23, v24, v25, v26, v27])), (e0, .inl (ec, 120, .inl ef))]) hP hD [0, 1] [] rfl rfl (by decide) (by decide) hk1 hFc hP1 hD1
      generalize H1 = H at hP hS ⊢
      have hP : va_P (dC, dI) vwCl [(h0, .inr (7, [v0, v1, v2, v3, v4, v5, v6, v7, v8, v9, .ref e0, .int ts, .int bg_8, .int en_9, .int so_10, .int va_11, .int iw_12, v17, v18, v19, v20, v21, v22, v23, v24, v25, v26, v27])), (e0, .inl (ec, 120, .inl ef))] H := hP
      have hD : va_D A [(h0, .inr (7, [v0, v1, v2, v3, v4, v5, v6, v7, v8, v9, .ref e0, .int ts, .int bg_8, .int en_9, .int so_10, .int va_11, .int iw_12, v17, v18, v19, v20, v21, v22, v23, v24, v25, v26, v27])), (e0, .inl (ec, 120, .inl ef))] := hD
      refine lv_iload_n hx hb dX9_number_31 rfl (lv_at hl 0 rfl) ?_
      have hP9 := hP.sub (ws' := [(h0, .inr (7, [v0, v1, v2, v3, v4, v5, v6, v7, v8, v9, .ref e0, .int ts, .int bg_8, .int en_9, .int so_10, .int va_11, .int iw_12, v17, v18, v19, v20, v21, v22, v23, v24, v25, v26, v27])), (e0, .inl (ec, 120, .inl ef))]) [0, 1] rfl
      have hD9 := hD.sub (ws' := [(h0, .inr (7, [v0, v1, v2, v3, v4, v5, v6, v7, v8, v9, .ref e0, .int ts, .int bg_8, .int en_9, .int so_10, .int va_11, .int iw_12, v17, v18, v19, v20, v21, v22, v23, v24, v25, v26, v27])), (e0, .inl (ec, 120, .inl ef))]) [0, 1] (by decide) rfl
      have hK9 := hK.sub (tys' := [(ec, .int)]) [0] rfl
      exact W.iret (v := va) hx hb hr (fun t ht hW => ⟨⟨va, (), rfl, (by first | omega | decide | (simp only [fa_lt, fa_le, fa_eq, and_true, true_and, and_false, false_and, not_true_eq_false, not_false_eq_true, li_0, li_1, li_2, li_3, li_4, li_5, li_6, li_7, li_8, li_9, li_10, li_12, li_15, li_16, li_20, li_30, li_34, li_38, li_40, li_63, li_64, li_65, li_78, li_120, li_1000, li_4000, li_10000, li_11077, li_255, li_65535, li_m1, li_m2, li_m1000000001, li_m1000000002, li_m1000000003, li_m1000000004, li_m1000000005, li_m1000000006, li_m1000000007, or_true, true_or, or_false, false_or, implies_true, true_implies, false_implies] <;> omega)), bg_8, en_9, so_10, va_11, iw_12, hq_13, hq_14, hq_15, hq_16, (by first | omega | decide | (simp only [fa_lt, fa_le, fa_eq, and_true, true_and, and_false, false_and, not_true_eq_false, not_false_eq_true, li_0, li_1, li_2, li_3, li_4, li_5, li_6, li_7, li_8, li_9, li_10, li_12, li_15, li_16, li_20, li_30, li_34, li_38, li_40, li_63, li_64, li_65, li_78, li_120, li_1000, li_4000, li_10000, li_11077, li_255, li_65535, li_m1, li_m2, li_m1000000001, li_m1000000002, li_m1000000003, li_m1000000004, li_m1000000005, li_m1000000006, li_m1000000007, or_true, true_or, or_false, false_or, implies_true, true_implies, false_implies] <;> omega)), by rw [ht]; exact hP9, va_K.moved hW.alike hK9, hD9⟩, hS.F ht⟩) hS.2.2 dX9_number_32

def w_m_readRows : List Cond := .code yX9_readRows cX9_readRows 8 (some .long) :: (([.fieldLink RX9 194 "LampShapesModel" "begins" "I", .fieldLink RX9 191 "LampShapesModel" "ends" "I", .fieldLink RX9 203 "LampShapesModel" "sort" "I", .methodLink RX9 224 yX9_must, .instanceMethod yX9_must, .selects RX9 yX9_must yX9_must, .initialized RX9, .code yX9_must cX9_must 2 none, .fieldLink RX9 217 "LampShapesModel" "isWrong" "Z", .methodLink RX9 221 yX9_next, .instanceMethod yX9_next, .selects RX9 yX9_next yX9_next, .code yX9_next cX9_next 2 none, .methodLink RX9 197 yX9_byteAt, .instanceMethod yX9_byteAt, .selects RX9 yX9_byteAt yX9_byteAt, .code yX9_byteAt cX9_byteAt 2 (some .int), .fieldLink RX9 188 "LampShapesModel" "taped" "I", .fieldLink RX9 32 "LampShapesModel" "tape" "[I", .fieldLink RX9 200 "LampShapesModel" "value" "I", .methodLink RX9 75 yX9_within, .static yX9_within, .code yX9_within cX9_within 3 (some .boolean), .methodLink RX9 206 yX9_isRowSign, .static yX9_isRowSign, .code yX9_isRowSign cX9_isRowSign 1 (some .boolean), .methodLink RX9 171 Lib.Math.min.name, .static Lib.Math.min.name, .initialized "java/lang/Math", .code Lib.Math.min.name Lib.Math.min.code 2 (some .int)] : List Cond) ++ wsX90)
set_option maxRecDepth 20000 in
theorem g_m_readRows_m_must0_224 : GoodIn w_m_readRows (wsV RX9 224 RX9 yX9_must w_m_must0) := goodIn_r _ [4, 5, 6, 7, 8, 9, 31, 32, 33, 34, 35, 36, 37, 38, 39, 40, 41, 42, 43, 44, 45, 46, 47, 48, 49, 50, 51, 52, 53, 54, 55, 56, 57, 58] rfl (by decide +kernel)
set_option maxRecDepth 20000 in
theorem g_m_readRows_m_must1g_224 : GoodIn w_m_readRows (wsV RX9 224 RX9 yX9_must w_m_must1g) := goodIn_r _ [4, 5, 6, 7, 8, 9, 10, 11, 12, 7, 13, 2, 1, 14, 15, 16, 17, 18, 19, 20, 21, 22, 23, 24, 25, 26, 3, 27, 28, 29, 30, 31, 32, 33, 34, 35, 36, 37, 38, 39, 40, 41, 42, 43, 44, 45, 46, 47, 48, 49, 50, 51, 52, 53, 54, 55, 56, 57, 58] rfl (by decide +kernel)
set_option maxHeartbeats 4000000 in
set_option maxRecDepth 100000 in
theorem m_readRows (l : Launch) (dC : Nat → ClassId) (dI : Nat → Nat → Nat) (ad : Nat → Nat) (h0 : Nat) (mst : Int32) (v0 : Value) (v1 : Value) (v2 : Value) (v3 : Value) (v4 : Value) (v5 : Value) (v6 : Value) (v7 : Value) (v8 : Value) (v9 : Value) (e0 : Nat) (ts : Int32) (bg : Int32) (en : Int32) (so : Int32) (va : Int32) (iw : Int32) (v17 : Value) (v18 : Value) (v19 : Value) (v20 : Value) (v21 : Value) (v22 : Value) (v23 : Value) (v24 : Value) (v25 : Value) (v26 : Value) (v27 : Value) (ec : ClassId) (ef : Nat → Int32) (sz : Nat) (htm : 0 ≤ ts.toInt ∧ ts.toInt ≤ 120) (hlx : 0 ≤ bg.toInt ∧ en.toInt ≤ ts.toInt ∧ bg.toInt ≤ en.toInt) (hso : (so.toInt = 1 ∨ so.toInt = 3) → bg.toInt + 1 ≤ en.toInt) (hva : 0 ≤ va.toInt ∧ va.toInt ≤ 10000) (hms : 1 ≤ mst.toInt ∧ mst.toInt ≤ 8) (hiw : iw.toInt = 0 ∨ iw.toInt = 1) : Met l yX9_readRows w_m_readRows ({ frames := 3, cells := 0, slots := 0, locals := 64 } : Room) (va_Pc [.ref h0, .int mst] (preM dC dI ad [(ec, .int)] [(h0, .inr (7, [v0, v1, v2, v3, v4, v5, v6, v7, v8, v9, .ref e0, .int ts, .int bg, .int en, .int so, .int va, .int iw, v17, v18, v19, v20, v21, v22, v23, v24, v25, v26, v27])), (e0, .inl (ec, 120, .inl ef))] sz)) (va_Ql (fun (r : Int64) (_ : Unit) => True) (fun _ t => ∃ (bg2 : Int32), ∃ (en2 : Int32), ∃ (so2 : Int32), ∃ (va2 : Int32), ∃ (iw2 : Int32), (0 ≤ bg2.toInt ∧ en2.toInt ≤ ts.toInt ∧ bg2.toInt ≤ en2.toInt) ∧ ((so2.toInt = 1 ∨ so2.toInt = 3) → bg2.toInt + 1 ≤ en2.toInt) ∧ (0 ≤ va2.toInt ∧ va2.toInt ≤ 10000) ∧ (iw2.toInt = 0 ∨ iw2.toInt = 1) ∧ (iw2.toInt = 0 → iw.toInt = 0 ∧ bg.toInt ≤ bg2.toInt) ∧ va_P (dC, dI) vwCl [(h0, .inr (7, [v0, v1, v2, v3, v4, v5, v6, v7, v8, v9, .ref e0, .int ts, .int bg2, .int en2, .int so2, .int va2, .int iw2, v17, v18, v19, v20, v21, v22, v23, v24, v25, v26, v27])), (e0, .inl (ec, 120, .inl ef))] t.heap ∧ va_K (dC, dI) vwCl [(ec, .int)] t ∧ va_D (va_A [(h0, .inr (7, [v0, v1, v2, v3, v4, v5, v6, v7, v8, v9, .ref e0, .int ts, .int bg, .int en, .int so, .int va, .int iw, v17, v18, v19, v20, v21, v22, v23, v24, v25, v26, v27])), (e0, .inl (ec, 120, .inl ef))] sz) [(h0, .inr (7, [v0, v1, v2, v3, v4, v5, v6, v7, v8, v9, .ref e0, .int ts, .int bg2, .int en2, .int so2, .int va2, .int iw2, v17, v18, v19, v20, v21, v22, v23, v24, v25, v26, v27])), (e0, .inl (ec, 120, .inl ef))]) (va_A [(h0, .inr (7, [v0, v1, v2, v3, v4, v5, v6, v7, v8, v9, .ref e0, .int ts, .int bg, .int en, .int so, .int va, .int iw, v17, v18, v19, v20, v21, v22, v23, v24, v25, v26, v27])), (e0, .inl (ec, 120, .inl ef))] sz)) 0 0 (va_A [(h0, .inr (7, [v0, v1, v2, v3, v4, v5, v6, v7, v8, v9, .ref e0, .int ts, .int bg, .int en, .int so, .int va, .int iw, v17, v18, v19, v20, v21, v22, v23, v24, v25, v26, v27])), (e0, .inl (ec, 120, .inl ef))] sz) := by
  refine Met.ofW (cc := cX9_readRows) (maxL := 8) (ret := (some .long)) (by decide) rfl ?_
  intro p e s m args below meth c s₁ B hml hv
  obtain ⟨rfl, hsz, hP, hK, hD0, hev⟩ := hv
  have hx := B.exec
  have hb := B.bytes
  have hr := B.returns
  have hts := atoms_spec (ws := w_m_readRows) B.pre
  have hown : s.vm.findClass RX9 = some m.cls := findClass_of_methodNamed B.named
  have hlocks := B.notSynchronized
  have inX9 : ∀ w ∈ wsX90, w ∈ w_m_readRows := fun w h => List.mem_cons_of_mem _ (List.mem_append_right _ h)
  subst hsz
  have hD := hD0.self (sz := s.heap.size)
  generalize hAe : va_A [(h0, .inr (7, [v0, v1, v2, v3, v4, v5, v6, v7, v8, v9, .ref e0, .int ts, .int bg, .int en, .int so, .int va, .int iw, v17, v18, v19, v20, v21, v22, v23, v24, v25, v26, v27])), (e0, .inl (ec, 120, .inl ef))] s.heap.size = A at hD ⊢
  have hA : ∀ q : Nat, s.heap.size ≤ q → A q := fun q h => by rw [← hAe]; exact Or.inr h
  have hS : va_S A s.heap s.heap [] := va_S.rf
  have hP : va_P (dC, dI) vwCl [(h0, .inr (7, [v0, v1, v2, v3, v4, v5, v6, v7, v8, v9, .ref e0, .int ts, .int bg, .int en, .int so, .int va, .int iw, v17, v18, v19, v20, v21, v22, v23, v24, v25, v26, v27])), (e0, .inl (ec, 120, .inl ef))] s.heap := hP
  have hl := lv_entry ([.ref h0, .int mst]) (n := 8) (Nat.le_of_ble_eq_true rfl)
  rw [lg_entry_eq]
  generalize (lg_sl ([.ref h0, .int mst]) ++ List.replicate (8 - (lg_sl ([.ref h0, .int mst])).length) Slot.unset).toArray = ls at hl ⊢
  have hl : lv_has ls 8 [(0, .ref h0), (1, .int mst)] := hl
  refine lv_lconst (v := 0) hx hb dX9_readRows_0 (by decide) ?_
  refine lv_lstore_n (lv' := [(2, .long 0), (0, .ref h0), (1, .int mst)]) hx hb dX9_readRows_1 rfl hl (by decide) rfl (fun ls hl => ?_)
  refine lv_iconst (v := 0) hx hb dX9_readRows_2 (by decide) ?_
  refine lv_istore (lv' := [(4, .int 0), (2, .long 0), (0, .ref h0), (1, .int mst)]) hx hb dX9_readRows_3 hl (by decide) rfl (fun ls hl => ?_)
  refine pp_loop (ι := Int32 × Int64 × Int32 × Int32 × Int32 × Int32 × Int32) (fun ⟨v4_5, v2_5, b_y, e_y, s_y, u_y, w_y⟩ => (9 - v4_5.toInt).toNat) (fun ⟨v4_5, v2_5, b_y, e_y, s_y, u_y, w_y⟩ H locs ls => (0 ≤ b_y.toInt ∧ e_y.toInt ≤ ts.toInt ∧ b_y.toInt ≤ e_y.toInt) ∧ ((s_y.toInt = 1 ∨ s_y.toInt = 3) → b_y.toInt + 1 ≤ e_y.toInt) ∧ (0 ≤ u_y.toInt ∧ u_y.toInt ≤ 10000) ∧ (w_y.toInt = 0 ∨ w_y.toInt = 1) ∧ (w_y.toInt = 0 → iw.toInt = 0 ∧ bg.toInt ≤ b_y.toInt) ∧ (0 ≤ v4_5.toInt ∧ v4_5.toInt ≤ 8) ∧ va_P (dC, dI) vwCl [(h0, .inr (7, [v0, v1, v2, v3, v4, v5, v6, v7, v8, v9, .ref e0, .int ts, .int b_y, .int e_y, .int s_y, .int u_y, .int w_y, v17, v18, v19, v20, v21, v22, v23, v24, v25, v26, v27])), (e0, .inl (ec, 120, .inl ef))] H ∧ va_D A [(h0, .inr (7, [v0, v1, v2, v3, v4, v5, v6, v7, v8, v9, .ref e0, .int ts, .int b_y, .int e_y, .int s_y, .int u_y, .int w_y, v17, v18, v19, v20, v21, v22, v23, v24, v25, v26, v27])), (e0, .inl (ec, 120, .inl ef))] ∧ va_S A s.heap H locs ∧ lv_has ls 8 [(4, .int v4_5), (2, .long v2_5), (0, .ref h0), (1, .int mst)]) ?_ (0, 0, bg, en, so, va, iw) _ _ _ ⟨(by first | omega | decide | (simp only [fa_lt, fa_le, fa_eq, and_true, true_and, and_false, false_and, not_true_eq_false, not_false_eq_true, li_0, li_1, li_2, li_3, li_4, li_5, li_6, li_7, li_8, li_9, li_10, li_12, li_15, li_16, li_20, li_30, li_34, li_38, li_40, li_63, li_64, li_65, li_78, li_120, li_1000, li_4000, li_10000, li_11077, li_255, li_65535, li_m1, li_m2, li_m1000000001, li_m1000000002, li_m1000000003, li_m1000000004, li_m1000000005, li_m1000000006, li_m1000000007, or_true, true_or, or_false, false_or, implies_true, true_implies, false_implies] <;> omega)), (by first | omega | decide | (simp only [fa_lt, fa_le, fa_eq, and_true, true_and, and_false, false_and, not_true_eq_false, not_false_eq_true, li_0, li_1, li_2, li_3, li_4, li_5, li_6, li_7, li_8, li_9, li_10, li_12, li_15, li_16, li_20, li_30, li_34, li_38, li_40, li_63, li_64, li_65, li_78, li_120, li_1000, li_4000, li_10000, li_11077, li_255, li_65535, li_m1, li_m2, li_m1000000001, li_m1000000002, li_m1000000003, li_m1000000004, li_m1000000005, li_m1000000006, li_m1000000007, or_true, true_or, or_false, false_or, implies_true, true_implies, false_implies] <;> omega)), (by first | omega | decide | (simp only [fa_lt, fa_le, fa_eq, and_true, true_and, and_false, false_and, not_true_eq_false, not_false_eq_true, li_0, li_1, li_2, li_3, li_4, li_5, li_6, li_7, li_8, li_9, li_10, li_12, li_15, li_16, li_20, li_30, li_34, li_38, li_40, li_63, li_64, li_65, li_78, li_120, li_1000, li_4000, li_10000, li_11077, li_255, li_65535, li_m1, li_m2, li_m1000000001, li_m1000000002, li_m1000000003, li_m1000000004, li_m1000000005, li_m1000000006, li_m1000000007, or_true, true_or, or_false, false_or, implies_true, true_implies, false_implies] <;> omega)), (by first | omega | decide | (simp only [fa_lt, fa_le, fa_eq, and_true, true_and, and_false, false_and, not_true_eq_false, not_false_eq_true, li_0, li_1, li_2, li_3, li_4, li_5, li_6, li_7, li_8, li_9, li_10, li_12, li_15, li_16, li_20, li_30, li_34, li_38, li_40, li_63, li_64, li_65, li_78, li_120, li_1000, li_4000, li_10000, li_11077, li_255, li_65535, li_m1, li_m2, li_m1000000001, li_m1000000002, li_m1000000003, li_m1000000004, li_m1000000005, li_m1000000006, li_m1000000007, or_true, true_or, or_false, false_or, implies_true, true_implies, false_implies] <;> omega)), (by first | omega | decide | (simp only [fa_lt, fa_le, fa_eq, and_true, true_and, and_false, false_and, not_true_eq_false, not_false_eq_true, li_0, li_1, li_2, li_3, li_4, li_5, li_6, li_7, li_8, li_9, li_10, li_12, li_15, li_16, li_20, li_30, li_34, li_38, li_40, li_63, li_64, li_65, li_78, li_120, li_1000, li_4000, li_10000, li_11077, li_255, li_65535, li_m1, li_m2, li_m1000000001, li_m1000000002, li_m1000000003, li_m1000000004, li_m1000000005, li_m1000000006, li_m1000000007, or_true, true_or, or_false, false_or, implies_true, true_implies, false_implies] <;> omega)), (by first | omega | decide | (simp only [fa_lt, fa_le, fa_eq, and_true, true_and, and_false, false_and, not_true_eq_false, not_false_eq_true, li_0, li_1, li_2, li_3, li_4, li_5, li_6, li_7, li_8, li_9, li_10, li_12, li_15, li_16, li_20, li_30, li_34, li_38, li_40, li_63, li_64, li_65, li_78, li_120, li_1000, li_4000, li_10000, li_11077, li_255, li_65535, li_m1, li_m2, li_m1000000001, li_m1000000002, li_m1000000003, li_m1000000004, li_m1000000005, li_m1000000006, li_m1000000007, or_true, true_or, or_false, false_or, implies_true, true_implies, false_implies] <;> omega)), hP.sub [0, 1] rfl, hD.sub [0, 1] (by decide) rfl, hS, lv_sub hl [0, 1, 2, 3] rfl⟩
  intro k_1 ihk_1 u H locs ls hm hI
  obtain ⟨v4_5, v2_5, b_y, e_y, s_y, u_y, w_y⟩ := u
  obtain ⟨jk_1_0, jk_1_1, jk_1_2, jk_1_3, jk_1_4, jk_1_5, hP, hD, hS, hl⟩ := hI
  have hmk_1 : (9 - v4_5.toInt).toNat < k_1 + 1 := hm
  clear hm
  have jk_1_0 : 0 ≤ b_y.toInt ∧ e_y.toInt ≤ ts.toInt ∧ b_y.toInt ≤ e_y.toInt := jk_1_0
  have jk_1_1 : (s_y.toInt = 1 ∨ s_y.toInt = 3) → b_y.toInt + 1 ≤ e_y.toInt := jk_1_1
  have jk_1_2 : 0 ≤ u_y.toInt ∧ u_y.toInt ≤ 10000 := jk_1_2
  have jk_1_3 : w_y.toInt = 0 ∨ w_y.toInt = 1 := jk_1_3
  have jk_1_4 : w_y.toInt = 0 → iw.toInt = 0 ∧ bg.toInt ≤ b_y.toInt := jk_1_4
  have jk_1_5 : 0 ≤ v4_5.toInt ∧ v4_5.toInt ≤ 8 := jk_1_5
  have hl : lv_has ls 8 [(4, .int v4_5), (2, .long v2_5), (0, .ref h0), (1, .int mst)] := hl
  have hP : va_P (dC, dI) vwCl [(h0, .inr (7, [v0, v1, v2, v3, v4, v5, v6, v7, v8, v9, .ref e0, .int ts, .int b_y, .int e_y, .int s_y, .int u_y, .int w_y, v17, v18, v19, v20, v21, v22, v23, v24, v25, v26, v27])), (e0, .inl (ec, 120, .inl ef))] H := hP
  have hD : va_D A [(h0, .inr (7, [v0, v1, v2, v3, v4, v5, v6, v7, v8, v9, .ref e0, .int ts, .int b_y, .int e_y, .int s_y, .int u_y, .int w_y, v17, v18, v19, v20, v21, v22, v23, v24, v25, v26, v27])), (e0, .inl (ec, 120, .inl ef))] := hD
  refine lv_iload hx hb dX9_readRows_5 (lv_at hl 0 rfl) ?_
  refine lv_if_eq (tgt := 31) hx hb dX9_readRows_7 (by decide) (fun c_2 => ?_) (fun c_2 => ?_)
  · skip
    have tc_2 : v4_5.toInt = 0 := (fa_eq _ _).mp c_2
    refine lv_aload_n hx hb dX9_readRows_31 rfl (lv_at hl 2 rfl) ?_
    refine va_get (D := (dC, dI)) (ci := 7) (v := .int b_y) (C := RX9) (T := TX9) (N := 28) hx hb hts inX9 hown hK hP 0 rfl rfl 12 (by decide) (hts _ (List.mem_of_getElem? (i := 1) rfl)) (fun _ h9 => h9) rfl dX9_readRows_32 ?_
    refine lv_istore (lv' := [(5, .int b_y), (4, .int v4_5), (2, .long v2_5), (0, .ref h0), (1, .int mst)]) hx hb dX9_readRows_35 hl (by decide) rfl (fun ls hl => ?_)
    refine lv_aload_n hx hb dX9_readRows_37 rfl (lv_at hl 3 rfl) ?_
    refine va_get (D := (dC, dI)) (ci := 7) (v := .int e_y) (C := RX9) (T := TX9) (N := 28) hx hb hts inX9 hown hK hP 0 rfl rfl 13 (by decide) (hts _ (List.mem_of_getElem? (i := 2) rfl)) (fun _ h9 => h9) rfl dX9_readRows_38 ?_
    refine lv_aload_n hx hb dX9_readRows_41 rfl (lv_at hl 3 rfl) ?_
    refine va_get (D := (dC, dI)) (ci := 7) (v := .int b_y) (C := RX9) (T := TX9) (N := 28) hx hb hts inX9 hown hK hP 0 rfl rfl 12 (by decide) (hts _ (List.mem_of_getElem? (i := 1) rfl)) (fun _ h9 => h9) rfl dX9_readRows_42 ?_
    refine lv_isub hx hb dX9_readRows_45 ?_
    refine lv_topi (fun n_3 en_3 => ?_)
    have tn_3 : n_3.toInt = e_y.toInt - b_y.toInt := pp_sub en_3 rfl rfl (by omega) (by omega)
    clear en_3
    refine lv_istore (lv' := [(6, .int n_3), (5, .int b_y), (4, .int v4_5), (2, .long v2_5), (0, .ref h0), (1, .int mst)]) hx hb dX9_readRows_46 hl (by decide) rfl (fun ls hl => ?_)
    refine lv_aload_n hx hb dX9_readRows_48 rfl (lv_at hl 4 rfl) ?_
    refine lv_aload_n hx hb dX9_readRows_49 rfl (lv_at hl 4 rfl) ?_
    refine va_get (D := (dC, dI)) (ci := 7) (v := .int s_y) (C := RX9) (T := TX9) (N := 28) hx hb hts inX9 hown hK hP 0 rfl rfl 14 (by decide) (hts _ (List.mem_of_getElem? (i := 3) rfl)) (fun _ h9 => h9) rfl dX9_readRows_50 ?_
    refine lv_iconst (v := 4) hx hb dX9_readRows_53 (by decide) ?_
    refine lv_icmp_ne (tgt := 67) hx hb dX9_readRows_54 (by decide) (fun c_4 => ?_) (fun c_4 => ?_)
    · skip
      have tc_4 : ¬ s_y.toInt = 4 := fun h => c_4 ((fa_eq _ _).mpr h)
      refine lv_iconst (v := 0) hx hb dX9_readRows_67 (by decide) ?_
      have hPc := hP.sub (ws' := [(h0, .inr (7, [v0, v1, v2, v3, v4, v5, v6, v7, v8, v9, .ref e0, .int ts, .int b_y, .int e_y, .int s_y, .int u_y, .int w_y, v17, v18, v19, v20, v21, v22, v23, v24, v25, v26, v27]))]) [0] rfl
      have hKc := hK.sub (tys' := []) [] rfl
      have hDc := hD.sub (ws' := [(h0, .inr (7, [v0, v1, v2, v3, v4, v5, v6, v7, v8, v9, .ref e0, .int ts, .int b_y, .int e_y, .int s_y, .int u_y, .int w_y, v17, v18, v19, v20, v21, v22, v23, v24, v25, v26, v27]))]) [0] (by decide) rfl
      have hFc := va_free (wc := [(h0, .inr (7, [v0, v1, v2, v3, v4, v5, v6, v7, v8, v9, .ref e0, .int ts, .int b_y, .int e_y, .int s_y, .int u_y, .int w_y, v17, v18, v19, v20, v21, v22, v23, v24, v25, v26, v27]))]) hD hS hA [0] rfl
      refine va_callv (va_runV (As := [.int 0]) (rest := []) ⟨hx, hb, hml, hown, hts⟩ (m_must0 l dC dI ad h0 v0 v1 v2 v3 v4 v5 v6 v7 v8 v9 (.ref e0) (.int ts) (.int b_y) (.int e_y) (.int s_y) (.int u_y) w_y v17 v18 v19 v20 v21 v22 v23 v24 v25 v26 v27 H.size ) (cwV 1 hts g_m_readRows_m_must0_224 rfl rfl rfl (by decide +kernel) ⟨(Nat.le_of_ble_eq_true rfl), (Nat.le_of_ble_eq_true rfl)⟩) ⟨preM_blind, va_recv hKc hPc (ci := 7) (q0 := 0) rfl rfl, fun U hU hW => ⟨rfl, preM_at hU hW hPc hKc hDc hev⟩⟩ rfl rfl hl.1 rfl (lv_room (Nat.le_of_ble_eq_true rfl)) dX9_readRows_68 ⟨(Nat.le_of_ble_eq_true rfl), (Nat.le_of_ble_eq_true rfl)⟩) hS (fun q _ h => hFc q h) hFc (fun u t H1 locs ht hvm hw hB hz1 hk1 hS => ?_)
      obtain ⟨hP1, hK1, hD1⟩ := hB
      rw [ht] at hP1
      have hK1 := va_K.moved hvm.symm hK1
      obtain ⟨hP, hD⟩ := va_join (wr := [(e0, .inl (ec, 120, .inl ef))]) (w1 := [(h0, .inr (7, [v0, v1, v2, v3, v4, v5, v6, v7, v8, v9, .ref e0, .int ts, .int b_y, .int e_y, .int s_y, .int u_y, .int 1, v17, v18, v19, v20, v21, v22, v23, v24, v25, v26, v27]))]) hP hD [0] [1] rfl rfl (by decide) (by decide) hk1 hFc hP1 hD1
      generalize H1 = H at hP hS ⊢
      have hP : va_P (dC, dI) vwCl [(e0, .inl (ec, 120, .inl ef)), (h0, .inr (7, [v0, v1, v2, v3, v4, v5, v6, v7, v8, v9, .ref e0, .int ts, .int b_y, .int e_y, .int s_y, .int u_y, .int 1, v17, v18, v19, v20, v21, v22, v23, v24, v25, v26, v27]))] H := hP
      have hD : va_D A [(e0, .inl (ec, 120, .inl ef)), (h0, .inr (7, [v0, v1, v2, v3, v4, v5, v6, v7, v8, v9, .ref e0, .int ts, .int b_y, .int e_y, .int s_y, .int u_y, .int 1, v17, v18, v19, v20, v21, v22, v23, v24, v25, v26, v27]))] := hD
      refine lv_iconst (v := 0) hx hb dX9_readRows_71 (by decide) ?_
      refine lv_istore (lv' := [(7, .int 0), (6, .int n_3), (5, .int b_y), (4, .int v4_5), (2, .long v2_5), (0, .ref h0), (1, .int mst)]) hx hb dX9_readRows_72 hl (by decide) rfl (fun ls hl => ?_)
      refine pp_loop (ι := Int32 × Int64) (fun ⟨v7_74, v2_74⟩ => (n_3.toInt - v7_74.toInt).toNat) (fun ⟨v7_74, v2_74⟩ H locs ls => (0 ≤ v7_74.toInt) ∧ va_P (dC, dI) vwCl [(e0, .inl (ec, 120, .inl ef)), (h0, .inr (7, [v0, v1, v2, v3, v4, v5, v6, v7, v8, v9, .ref e0, .int ts, .int b_y, .int e_y, .int s_y, .int u_y, .int 1, v17, v18, v19, v20, v21, v22, v23, v24, v25, v26, v27]))] H ∧ va_D A [(e0, .inl (ec, 120, .inl ef)), (h0, .inr (7, [v0, v1, v2, v3, v4, v5, v6, v7, v8, v9, .ref e0, .int ts, .int b_y, .int e_y, .int s_y, .int u_y, .int 1, v17, v18, v19, v20, v21, v22, v23, v24, v25, v26, v27]))] ∧ va_S A s.heap H locs ∧ lv_has ls 8 [(7, .int v7_74), (6, .int n_3), (5, .int b_y), (4, .int v4_5), (2, .long v2_74), (0, .ref h0), (1, .int mst)]) ?_ (0, v2_5) _ _ _ ⟨(by first | omega | decide | (simp only [fa_lt, fa_le, fa_eq, and_true, true_and, and_false, false_and, not_true_eq_false, not_false_eq_true, li_0, li_1, li_2, li_3, li_4, li_5, li_6, li_7, li_8, li_9, li_10, li_12, li_15, li_16, li_20, li_30, li_34, li_38, li_40, li_63, li_64, li_65, li_78, li_120, li_1000, li_4000, li_10000, li_11077, li_255, li_65535, li_m1, li_m2, li_m1000000001, li_m1000000002, li_m1000000003, li_m1000000004, li_m1000000005, li_m1000000006, li_m1000000007, or_true, true_or, or_false, false_or, implies_true, true_implies, false_implies] <;> omega)), hP.sub [0, 1] rfl, hD.sub [0, 1] (by decide) rfl, hS, lv_sub hl [0, 1, 2, 3, 4, 5, 6] rfl⟩
      intro k_6 ihk_6 u H locs ls hm hI
      obtain ⟨v7_74, v2_74⟩ := u
      obtain ⟨jk_6_0, hP, hD, hS, hl⟩ := hI
      have hmk_6 : (n_3.toInt - v7_74.toInt).toNat < k_6 + 1 := hm
      clear hm
      have jk_6_0 : 0 ≤ v7_74.toInt := jk_6_0
      have hl : lv_has ls 8 [(7, .int v7_74), (6, .int n_3), (5, .int b_y), (4, .int v4_5), (2, .long v2_74), (0, .ref h0), (1, .int mst)] := hl
      have hP : va_P (dC, dI) vwCl [(e0, .inl (ec, 120, .inl ef)), (h0, .inr (7, [v0, v1, v2, v3, v4, v5, v6, v7, v8, v9, .ref e0, .int ts, .int b_y, .int e_y, .int s_y, .int u_y, .int 1, v17, v18, v19, v20, v21, v22, v23, v24, v25, v26, v27]))] H := hP
      have hD : va_D A [(e0, .inl (ec, 120, .inl ef)), (h0, .inr (7, [v0, v1, v2, v3, v4, v5, v6, v7, v8, v9, .ref e0, .int ts, .int b_y, .int e_y, .int s_y, .int u_y, .int 1, v17, v18, v19, v20, v21, v22, v23, v24, v25, v26, v27]))] := hD
      refine lv_iload hx hb dX9_readRows_74 (lv_at hl 0 rfl) ?_
      refine lv_iload hx hb dX9_readRows_76 (lv_at hl 1 rfl) ?_
      have rc_7_x := pp_rng v7_74
      have rc_7_y := pp_rng n_3
      refine lv_icmp_ge (tgt := 125) hx hb dX9_readRows_78 (by decide) (fun c_7 => ?_) (fun c_7 => ?_)
      · skip
        have tc_7 : n_3.toInt ≤ v7_74.toInt := (fa_le _ _).mp c_7
        obtain ⟨n_8, en_8⟩ : ∃ y : Int32, y = v4_5 + 1 := ⟨_, rfl⟩
        have tn_8 : n_8.toInt = v4_5.toInt + 1 := pp_add en_8 rfl rfl (by omega) (by omega)
        refine lv_iinc (v := n_8) (lv' := [(4, .int n_8), (7, .int v7_74), (6, .int n_3), (5, .int b_y), (2, .long v2_74), (0, .ref h0), (1, .int mst)]) hx hb dX9_readRows_125 hl (k := 3) rfl (by rw [en_8]; rfl) (by decide) rfl (fun ls hl => ?_)
        clear en_8
        refine lv_goto (tgt := 5) hx hb dX9_readRows_128 (by decide) ?_
        exact ihk_1 (n_8, v2_74, b_y, e_y, s_y, u_y, (1 : Int32)) _ _ _ (by show (9 - n_8.toInt).toNat < k_1; omega) ⟨(by first | omega | decide | (simp only [fa_lt, fa_le, fa_eq, and_true, true_and, and_false, false_and, not_true_eq_false, not_false_eq_true, li_0, li_1, li_2, li_3, li_4, li_5, li_6, li_7, li_8, li_9, li_10, li_12, li_15, li_16, li_20, li_30, li_34, li_38, li_40, li_63, li_64, li_65, li_78, li_120, li_1000, li_4000, li_10000, li_11077, li_255, li_65535, li_m1, li_m2, li_m1000000001, li_m1000000002, li_m1000000003, li_m1000000004, li_m1000000005, li_m1000000006, li_m1000000007, or_true, true_or, or_false, false_or, implies_true, true_implies, false_implies] <;> omega)), (by first | omega | decide | (simp only [fa_lt, fa_le, fa_eq, and_true, true_and, and_false, false_and, not_true_eq_false, not_false_eq_true, li_0, li_1, li_2, li_3, li_4, li_5, li_6, li_7, li_8, li_9, li_10, li_12, li_15, li_16, li_20, li_30, li_34, li_38, li_40, li_63, li_64, li_65, li_78, li_120, li_1000, li_4000, li_10000, li_11077, li_255, li_65535, li_m1, li_m2, li_m1000000001, li_m1000000002, li_m1000000003, li_m1000000004, li_m1000000005, li_m1000000006, li_m1000000007, or_true, true_or, or_false, false_or, implies_true, true_implies, false_implies] <;> omega)), (by first | omega | decide | (simp only [fa_lt, fa_le, fa_eq, and_true, true_and, and_false, false_and, not_true_eq_false, not_false_eq_true, li_0, li_1, li_2, li_3, li_4, li_5, li_6, li_7, li_8, li_9, li_10, li_12, li_15, li_16, li_20, li_30, li_34, li_38, li_40, li_63, li_64, li_65, li_78, li_120, li_1000, li_4000, li_10000, li_11077, li_255, li_65535, li_m1, li_m2, li_m1000000001, li_m1000000002, li_m1000000003, li_m1000000004, li_m1000000005, li_m1000000006, li_m1000000007, or_true, true_or, or_false, false_or, implies_true, true_implies, false_implies] <;> omega)), (by first | omega | decide | (simp only [fa_lt, fa_le, fa_eq, and_true, true_and, and_false, false_and, not_true_eq_false, not_false_eq_true, li_0, li_1, li_2, li_3, li_4, li_5, li_6, li_7, li_8, li_9, li_10, li_12, li_15, li_16, li_20, li_30, li_34, li_38, li_40, li_63, li_64, li_65, li_78, li_120, li_1000, li_4000, li_10000, li_11077, li_255, li_65535, li_m1, li_m2, li_m1000000001, li_m1000000002, li_m1000000003, li_m1000000004, li_m1000000005, li_m1000000006, li_m1000000007, or_true, true_or, or_false, false_or, implies_true, true_implies, false_implies] <;> omega)), (by first | omega | decide | (simp only [fa_lt, fa_le, fa_eq, and_true, true_and, and_false, false_and, not_true_eq_false, not_false_eq_true, li_0, li_1, li_2, li_3, li_4, li_5, li_6, li_7, li_8, li_9, li_10, li_12, li_15, li_16, li_20, li_30, li_34, li_38, li_40, li_63, li_64, li_65, li_78, li_120, li_1000, li_4000, li_10000, li_11077, li_255, li_65535, li_m1, li_m2, li_m1000000001, li_m1000000002, li_m1000000003, li_m1000000004, li_m1000000005, li_m1000000006, li_m1000000007, or_true, true_or, or_false, false_or, implies_true, true_implies, false_implies] <;> omega)), (by first | omega | decide | (simp only [fa_lt, fa_le, fa_eq, and_true, true_and, and_false, false_and, not_true_eq_false, not_false_eq_true, li_0, li_1, li_2, li_3, li_4, li_5, li_6, li_7, li_8, li_9, li_10, li_12, li_15, li_16, li_20, li_30, li_34, li_38, li_40, li_63, li_64, li_65, li_78, li_120, li_1000, li_4000, li_10000, li_11077, li_255, li_65535, li_m1, li_m2, li_m1000000001, li_m1000000002, li_m1000000003, li_m1000000004, li_m1000000005, li_m1000000006, li_m1000000007, or_true, true_or, or_false, false_or, implies_true, true_implies, false_implies] <;> omega)), hP.sub [1, 0] rfl, hD.sub [1, 0] (by decide) rfl, hS, lv_sub hl [0, 4, 5, 6] rfl⟩
      · skip
        have tc_7 : ¬ n_3.toInt ≤ v7_74.toInt := fun h => c_7 ((fa_le _ _).mpr h)
        refine lv_aload_n hx hb dX9_readRows_81 rfl (lv_at hl 5 rfl) ?_
        refine va_get (D := (dC, dI)) (ci := 7) (v := .int 1) (C := RX9) (T := TX9) (N := 28) hx hb hts inX9 hown hK hP 1 rfl rfl 16 (by decide) (hts _ (List.mem_of_getElem? (i := 9) rfl)) (fun _ h9 => h9) rfl dX9_readRows_82 ?_
        refine lv_if_ne (tgt := 125) hx hb dX9_readRows_85 (by decide) (fun _ => ?_) (fun c => absurd c (by decide))
        obtain ⟨n_9, en_9⟩ : ∃ y : Int32, y = v4_5 + 1 := ⟨_, rfl⟩
        have tn_9 : n_9.toInt = v4_5.toInt + 1 := pp_add en_9 rfl rfl (by omega) (by omega)
        refine lv_iinc (v := n_9) (lv' := [(4, .int n_9), (7, .int v7_74), (6, .int n_3), (5, .int b_y), (2, .long v2_74), (0, .ref h0), (1, .int mst)]) hx hb dX9_readRows_125 hl (k := 3) rfl (by rw [en_9]; rfl) (by decide) rfl (fun ls hl => ?_)
        clear en_9
        refine lv_goto (tgt := 5) hx hb dX9_readRows_128 (by decide) ?_
        exact ihk_1 (n_9, v2_74, b_y, e_y, s_y, u_y, (1 : Int32)) _ _ _ (by show (9 - n_9.toInt).toNat < k_1; omega) ⟨(by first | omega | decide | (simp only [fa_lt, fa_le, fa_eq, and_true, true_and, and_false, false_and, not_true_eq_false, not_false_eq_true, li_0, li_1, li_2, li_3, li_4, li_5, li_6, li_7, li_8, li_9, li_10, li_12, li_15, li_16, li_20, li_30, li_34, li_38, li_40, li_63, li_64, li_65, li_78, li_120, li_1000, li_4000, li_10000, li_11077, li_255, li_65535, li_m1, li_m2, li_m1000000001, li_m1000000002, li_m1000000003, li_m1000000004, li_m1000000005, li_m1000000006, li_m1000000007, or_true, true_or, or_false, false_or, implies_true, true_implies, false_implies] <;> omega)), (by first | omega | decide | (simp only [fa_lt, fa_le, fa_eq, and_true, true_and, and_false, false_and, not_true_eq_false, not_false_eq_true, li_0, li_1, li_2, li_3, li_4, li_5, li_6, li_7, li_8, li_9, li_10, li_12, li_15, li_16, li_20, li_30, li_34, li_38, li_40, li_63, li_64, li_65, li_78, li_120, li_1000, li_4000, li_10000, li_11077, li_255, li_65535, li_m1, li_m2, li_m1000000001, li_m1000000002, li_m1000000003, li_m1000000004, li_m1000000005, li_m1000000006, li_m1000000007, or_true, true_or, or_false, false_or, implies_true, true_implies, false_implies] <;> omega)), (by first | omega | decide | (simp only [fa_lt, fa_le, fa_eq, and_true, true_and, and_false, false_and, not_true_eq_false, not_false_eq_true, li_0, li_1, li_2, li_3, li_4, li_5, li_6, li_7, li_8, li_9, li_10, li_12, li_15, li_16, li_20, li_30, li_34, li_38, li_40, li_63, li_64, li_65, li_78, li_120, li_1000, li_4000, li_10000, li_11077, li_255, li_65535, li_m1, li_m2, li_m1000000001, li_m1000000002, li_m1000000003, li_m1000000004, li_m1000000005, li_m1000000006, li_m1000000007, or_true, true_or, or_false, false_or, implies_true, true_implies, false_implies] <;> omega)), (by first | omega | decide | (simp only [fa_lt, fa_le, fa_eq, and_true, true_and, and_false, false_and, not_true_eq_false, not_false_eq_true, li_0, li_1, li_2, li_3, li_4, li_5, li_6, li_7, li_8, li_9, li_10, li_12, li_15, li_16, li_20, li_30, li_34, li_38, li_40, li_63, li_64, li_65, li_78, li_120, li_1000, li_4000, li_10000, li_11077, li_255, li_65535, li_m1, li_m2, li_m1000000001, li_m1000000002, li_m1000000003, li_m1000000004, li_m1000000005, li_m1000000006, li_m1000000007, or_true, true_or, or_false, false_or, implies_true, true_implies, false_implies] <;> omega)), (by first | omega | decide | (simp only [fa_lt, fa_le, fa_eq, and_true, true_and, and_false, false_and, not_true_eq_false, not_false_eq_true, li_0, li_1, li_2, li_3, li_4, li_5, li_6, li_7, li_8, li_9, li_10, li_12, li_15, li_16, li_20, li_30, li_34, li_38, li_40, li_63, li_64, li_65, li_78, li_120, li_1000, li_4000, li_10000, li_11077, li_255, li_65535, li_m1, li_m2, li_m1000000001, li_m1000000002, li_m1000000003, li_m1000000004, li_m1000000005, li_m1000000006, li_m1000000007, or_true, true_or, or_false, false_or, implies_true, true_implies, false_implies] <;> omega)), (by first | omega | decide | (simp only [fa_lt, fa_le, fa_eq, and_true, true_and, and_false, false_and, not_true_eq_false, not_false_eq_true, li_0, li_1, li_2, li_3, li_4, li_5, li_6, li_7, li_8, li_9, li_10, li_12, li_15, li_16, li_20, li_30, li_34, li_38, li_40, li_63, li_64, li_65, li_78, li_120, li_1000, li_4000, li_10000, li_11077, li_255, li_65535, li_m1, li_m2, li_m1000000001, li_m1000000002, li_m1000000003, li_m1000000004, li_m1000000005, li_m1000000006, li_m1000000007, or_true, true_or, or_false, false_or, implies_true, true_implies, false_implies] <;> omega)), hP.sub [1, 0] rfl, hD.sub [1, 0] (by decide) rfl, hS, lv_sub hl [0, 4, 5, 6] rfl⟩
    · skip
      have tc_4 : s_y.toInt = 4 := (fa_eq _ _).mp c_4
      refine lv_iload hx hb dX9_readRows_57 (lv_at hl 0 rfl) ?_
      refine lv_iload_n hx hb dX9_readRows_59 rfl (lv_at hl 5 rfl) ?_
      have rc_10_x := pp_rng n_3
      have rc_10_y := pp_rng mst
      refine lv_icmp_gt (tgt := 67) hx hb dX9_readRows_60 (by decide) (fun c_10 => ?_) (fun c_10 => ?_)
      · skip
        have tc_10 : mst.toInt < n_3.toInt := (fa_lt _ _).mp c_10
        refine lv_iconst (v := 0) hx hb dX9_readRows_67 (by decide) ?_
        have hPc := hP.sub (ws' := [(h0, .inr (7, [v0, v1, v2, v3, v4, v5, v6, v7, v8, v9, .ref e0, .int ts, .int b_y, .int e_y, .int s_y, .int u_y, .int w_y, v17, v18, v19, v20, v21, v22, v23, v24, v25, v26, v27]))]) [0] rfl
        have hKc := hK.sub (tys' := []) [] rfl
        have hDc := hD.sub (ws' := [(h0, .inr (7, [v0, v1, v2, v3, v4, v5, v6, v7, v8, v9, .ref e0, .int ts, .int b_y, .int e_y, .int s_y, .int u_y, .int w_y, v17, v18, v19, v20, v21, v22, v23, v24, v25, v26, v27]))]) [0] (by decide) rfl
        have hFc := va_free (wc := [(h0, .inr (7, [v0, v1, v2, v3, v4, v5, v6, v7, v8, v9, .ref e0, .int ts, .int b_y, .int e_y, .int s_y, .int u_y, .int w_y, v17, v18, v19, v20, v21, v22, v23, v24, v25, v26, v27]))]) hD hS hA [0] rfl
        refine va_callv (va_runV (As := [.int 0]) (rest := []) ⟨hx, hb, hml, hown, hts⟩ (m_must0 l dC dI ad h0 v0 v1 v2 v3 v4 v5 v6 v7 v8 v9 (.ref e0) (.int ts) (.int b_y) (.int e_y) (.int s_y) (.int u_y) w_y v17 v18 v19 v20 v21 v22 v23 v24 v25 v26 v27 H.size ) (cwV 1 hts g_m_readRows_m_must0_224 rfl rfl rfl (by decide +kernel) ⟨(Nat.le_of_ble_eq_true rfl), (Nat.le_of_ble_eq_true rfl)⟩) ⟨preM_blind, va_recv hKc hPc (ci := 7) (q0 := 0) rfl rfl, fun U hU hW => ⟨rfl, preM_at hU hW hPc hKc hDc hev⟩⟩ rfl rfl hl.1 rfl (lv_room (Nat.le_of_ble_eq_true rfl)) dX9_readRows_68 ⟨(Nat.le_of_ble_eq_true rfl), (Nat.le_of_ble_eq_true rfl)⟩) hS (fun q _ h => hFc q h) hFc (fun u t H1 locs ht hvm hw hB hz1 hk1 hS => ?_)
        obtain ⟨hP1, hK1, hD1⟩ := hB
        rw [ht] at hP1
        have hK1 := va_K.moved hvm.symm hK1
        obtain ⟨hP, hD⟩ := va_join (wr := [(e0, .inl (ec, 120, .inl ef))]) (w1 := [(h0, .inr (7, [v0, v1, v2, v3, v4, v5, v6, v7, v8, v9, .ref e0, .int ts, .int b_y, .int e_y, .int s_y, .int u_y, .int 1, v17, v18, v19, v20, v21, v22, v23, v24, v25, v26, v27]))]) hP hD [0] [1] rfl rfl (by decide) (by decide) hk1 hFc hP1 hD1
        generalize H1 = H at hP hS ⊢
        have hP : va_P (dC, dI) vwCl [(e0, .inl (ec, 120, .inl ef)), (h0, .inr (7, [v0, v1, v2, v3, v4, v5, v6, v7, v8, v9, .ref e0, .int ts, .int b_y, .int e_y, .int s_y, .int u_y, .int 1, v17, v18, v19, v20, v21, v22, v23, v24, v25, v26, v27]))] H := hP
        have hD : va_D A [(e0, .inl (ec, 120, .inl ef)), (h0, .inr (7, [v0, v1, v2, v3, v4, v5, v6, v7, v8, v9, .ref e0, .int ts, .int b_y, .int e_y, .int s_y, .int u_y, .int 1, v17, v18, v19, v20, v21, v22, v23, v24, v25, v26, v27]))] := hD
        refine lv_iconst (v := 0) hx hb dX9_readRows_71 (by decide) ?_
        refine lv_istore (lv' := [(7, .int 0), (6, .int n_3), (5, .int b_y), (4, .int v4_5), (2, .long v2_5), (0, .ref h0), (1, .int mst)]) hx hb dX9_readRows_72 hl (by decide) rfl (fun ls hl => ?_)
        refine pp_loop (ι := Int32 × Int64) (fun ⟨v7_74, v2_74⟩ => (n_3.toInt - v7_74.toInt).toNat) (fun ⟨v7_74, v2_74⟩ H locs ls => (0 ≤ v7_74.toInt) ∧ va_P (dC, dI) vwCl [(e0, .inl (ec, 120, .inl ef)), (h0, .inr (7, [v0, v1, v2, v3, v4, v5, v6, v7, v8, v9, .ref e0, .int ts, .int b_y, .int e_y, .int s_y, .int u_y, .int 1, v17, v18, v19, v20, v21, v22, v23, v24, v25, v26, v27]))] H ∧ va_D A [(e0, .inl (ec, 120, .inl ef)), (h0, .inr (7, [v0, v1, v2, v3, v4, v5, v6, v7, v8, v9, .ref e0, .int ts, .int b_y, .int e_y, .int s_y, .int u_y, .int 1, v17, v18, v19, v20, v21, v22, v23, v24, v25, v26, v27]))] ∧ va_S A s.heap H locs ∧ lv_has ls 8 [(7, .int v7_74), (6, .int n_3), (5, .int b_y), (4, .int v4_5), (2, .long v2_74), (0, .ref h0), (1, .int mst)]) ?_ (0, v2_5) _ _ _ ⟨(by first | omega | decide | (simp only [fa_lt, fa_le, fa_eq, and_true, true_and, and_false, false_and, not_true_eq_false, not_false_eq_true, li_0, li_1, li_2, li_3, li_4, li_5, li_6, li_7, li_8, li_9, li_10, li_12, li_15, li_16, li_20, li_30, li_34, li_38, li_40, li_63, li_64, li_65, li_78, li_120, li_1000, li_4000, li_10000, li_11077, li_255, li_65535, li_m1, li_m2, li_m1000000001, li_m1000000002, li_m1000000003, li_m1000000004, li_m1000000005, li_m1000000006, li_m1000000007, or_true, true_or, or_false, false_or, implies_true, true_implies, false_implies] <;> omega)), hP.sub [0, 1] rfl, hD.sub [0, 1] (by decide) rfl, hS, lv_sub hl [0, 1, 2, 3, 4, 5, 6] rfl⟩
        intro k_12 ihk_12 u H locs ls hm hI
        obtain ⟨v7_74, v2_74⟩ := u
        obtain ⟨jk_12_0, hP, hD, hS, hl⟩ := hI
        have hmk_12 : (n_3.toInt - v7_74.toInt).toNat < k_12 + 1 := hm
        clear hm
        have jk_12_0 : 0 ≤ v7_74.toInt := jk_12_0
        have hl : lv_has ls 8 [(7, .int v7_74), (6, .int n_3), (5, .int b_y), (4, .int v4_5), (2, .long v2_74), (0, .ref h0), (1, .int mst)] := hl
        have hP : va_P (dC, dI) vwCl [(e0, .inl (ec, 120, .inl ef)), (h0, .inr (7, [v0, v1, v2, v3, v4, v5, v6, v7, v8, v9, .ref e0, .int ts, .int b_y, .int e_y, .int s_y, .int u_y, .int 1, v17, v18, v19, v20, v21, v22, v23, v24, v25, v26, v27]))] H := hP
        have hD : va_D A [(e0, .inl (ec, 120, .inl ef)), (h0, .inr (7, [v0, v1, v2, v3, v4, v5, v6, v7, v8, v9, .ref e0, .int ts, .int b_y, .int e_y, .int s_y, .int u_y, .int 1, v17, v18, v19, v20, v21, v22, v23, v24, v25, v26, v27]))] := hD
        refine lv_iload hx hb dX9_readRows_74 (lv_at hl 0 rfl) ?_
        refine lv_iload hx hb dX9_readRows_76 (lv_at hl 1 rfl) ?_
        have rc_13_x := pp_rng v7_74
        have rc_13_y := pp_rng n_3
        refine lv_icmp_ge (tgt := 125) hx hb dX9_readRows_78 (by decide) (fun c_13 => ?_) (fun c_13 => ?_)
        · skip
          have tc_13 : n_3.toInt ≤ v7_74.toInt := (fa_le _ _).mp c_13
          obtain ⟨n_14, en_14⟩ : ∃ y : Int32, y = v4_5 + 1 := ⟨_, rfl⟩
          have tn_14 : n_14.toInt = v4_5.toInt + 1 := pp_add en_14 rfl rfl (by omega) (by omega)
          refine lv_iinc (v := n_14) (lv' := [(4, .int n_14), (7, .int v7_74), (6, .int n_3), (5, .int b_y), (2, .long v2_74), (0, .ref h0), (1, .int mst)]) hx hb dX9_readRows_125 hl (k := 3) rfl (by rw [en_14]; rfl) (by decide) rfl (fun ls hl => ?_)
          clear en_14
          refine lv_goto (tgt := 5) hx hb dX9_readRows_128 (by decide) ?_
          exact ihk_1 (n_14, v2_74, b_y, e_y, s_y, u_y, (1 : Int32)) _ _ _ (by show (9 - n_14.toInt).toNat < k_1; omega) ⟨(by first | omega | decide | (simp only [fa_lt, fa_le, fa_eq, and_true, true_and, and_false, false_and, not_true_eq_false, not_false_eq_true, li_0, li_1, li_2, li_3, li_4, li_5, li_6, li_7, li_8, li_9, li_10, li_12, li_15, li_16, li_20, li_30, li_34, li_38, li_40, li_63, li_64, li_65, li_78, li_120, li_1000, li_4000, li_10000, li_11077, li_255, li_65535, li_m1, li_m2, li_m1000000001, li_m1000000002, li_m1000000003, li_m1000000004, li_m1000000005, li_m1000000006, li_m1000000007, or_true, true_or, or_false, false_or, implies_true, true_implies, false_implies] <;> omega)), (by first | omega | decide | (simp only [fa_lt, fa_le, fa_eq, and_true, true_and, and_false, false_and, not_true_eq_false, not_false_eq_true, li_0, li_1, li_2, li_3, li_4, li_5, li_6, li_7, li_8, li_9, li_10, li_12, li_15, li_16, li_20, li_30, li_34, li_38, li_40, li_63, li_64, li_65, li_78, li_120, li_1000, li_4000, li_10000, li_11077, li_255, li_65535, li_m1, li_m2, li_m1000000001, li_m1000000002, li_m1000000003, li_m1000000004, li_m1000000005, li_m1000000006, li_m1000000007, or_true, true_or, or_false, false_or, implies_true, true_implies, false_implies] <;> omega)), (by first | omega | decide | (simp only [fa_lt, fa_le, fa_eq, and_true, true_and, and_false, false_and, not_true_eq_false, not_false_eq_true, li_0, li_1, li_2, li_3, li_4, li_5, li_6, li_7, li_8, li_9, li_10, li_12, li_15, li_16, li_20, li_30, li_34, li_38, li_40, li_63, li_64, li_65, li_78, li_120, li_1000, li_4000, li_10000, li_11077, li_255, li_65535, li_m1, li_m2, li_m1000000001, li_m1000000002, li_m1000000003, li_m1000000004, li_m1000000005, li_m1000000006, li_m1000000007, or_true, true_or, or_false, false_or, implies_true, true_implies, false_implies] <;> omega)), (by first | omega | decide | (simp only [fa_lt, fa_le, fa_eq, and_true, true_and, and_false, false_and, not_true_eq_false, not_false_eq_true, li_0, li_1, li_2, li_3, li_4, li_5, li_6, li_7, li_8, li_9, li_10, li_12, li_15, li_16, li_20, li_30, li_34, li_38, li_40, li_63, li_64, li_65, li_78, li_120, li_1000, li_4000, li_10000, li_11077, li_255, li_65535, li_m1, li_m2, li_m1000000001, li_m1000000002, li_m1000000003, li_m1000000004, li_m1000000005, li_m1000000006, li_m1000000007, or_true, true_or, or_false, false_or, implies_true, true_implies, false_implies] <;> omega)), (by first | omega | decide | (simp only [fa_lt, fa_le, fa_eq, and_true, true_and, and_false, false_and, not_true_eq_false, not_false_eq_true, li_0, li_1, li_2, li_3, li_4, li_5, li_6, li_7, li_8, li_9, li_10, li_12, li_15, li_16, li_20, li_30, li_34, li_38, li_40, li_63, li_64, li_65, li_78, li_120, li_1000, li_4000, li_10000, li_11077, li_255, li_65535, li_m1, li_m2, li_m1000000001, li_m1000000002, li_m1000000003, li_m1000000004, li_m1000000005, li_m1000000006, li_m1000000007, or_true, true_or, or_false, false_or, implies_true, true_implies, false_implies] <;> omega)), (by first | omega | decide | (simp only [fa_lt, fa_le, fa_eq, and_true, true_and, and_false, false_and, not_true_eq_false, not_false_eq_true, li_0, li_1, li_2, li_3, li_4, li_5, li_6, li_7, li_8, li_9, li_10, li_12, li_15, li_16, li_20, li_30, li_34, li_38, li_40, li_63, li_64, li_65, li_78, li_120, li_1000, li_4000, li_10000, li_11077, li_255, li_65535, li_m1, li_m2, li_m1000000001, li_m1000000002, li_m1000000003, li_m1000000004, li_m1000000005, li_m1000000006, li_m1000000007, or_true, true_or, or_false, false_or, implies_true, true_implies, false_implies] <;> omega)), hP.sub [1, 0] rfl, hD.sub [1, 0] (by decide) rfl, hS, lv_sub hl [0, 4, 5, 6] rfl⟩
        · skip
          have tc_13 : ¬ n_3.toInt ≤ v7_74.toInt := fun h => c_13 ((fa_le _ _).mpr h)
          refine lv_aload_n hx hb dX9_readRows_81 rfl (lv_at hl 5 rfl) ?_
          refine va_get (D := (dC, dI)) (ci := 7) (v := .int 1) (C := RX9) (T := TX9) (N := 28) hx hb hts inX9 hown hK hP 1 rfl rfl 16 (by decide) (hts _ (List.mem_of_getElem? (i := 9) rfl)) (fun _ h9 => h9) rfl dX9_readRows_82 ?_
          refine lv_if_ne (tgt := 125) hx hb dX9_readRows_85 (by decide) (fun _ => ?_) (fun c => absurd c (by decide))
          obtain ⟨n_15, en_15⟩ : ∃ y : Int32, y = v4_5 + 1 := ⟨_, rfl⟩
          have tn_15 : n_15.toInt = v4_5.toInt + 1 := pp_add en_15 rfl rfl (by omega) (by omega)
          refine lv_iinc (v := n_15) (lv' := [(4, .int n_15), (7, .int v7_74), (6, .int n_3), (5, .int b_y), (2, .long v2_74), (0, .ref h0), (1, .int mst)]) hx hb dX9_readRows_125 hl (k := 3) rfl (by rw [en_15]; rfl) (by decide) rfl (fun ls hl => ?_)
          clear en_15
          refine lv_goto (tgt := 5) hx hb dX9_readRows_128 (by decide) ?_
          exact ihk_1 (n_15, v2_74, b_y, e_y, s_y, u_y, (1 : Int32)) _ _ _ (by show (9 - n_15.toInt).toNat < k_1; omega) ⟨(by first | omega | decide | (simp only [fa_lt, fa_le, fa_eq, and_true, true_and, and_false, false_and, not_true_eq_false, not_false_eq_true, li_0, li_1, li_2, li_3, li_4, li_5, li_6, li_7, li_8, li_9, li_10, li_12, li_15, li_16, li_20, li_30, li_34, li_38, li_40, li_63, li_64, li_65, li_78, li_120, li_1000, li_4000, li_10000, li_11077, li_255, li_65535, li_m1, li_m2, li_m1000000001, li_m1000000002, li_m1000000003, li_m1000000004, li_m1000000005, li_m1000000006, li_m1000000007, or_true, true_or, or_false, false_or, implies_true, true_implies, false_implies] <;> omega)), (by first | omega | decide | (simp only [fa_lt, fa_le, fa_eq, and_true, true_and, and_false, false_and, not_true_eq_false, not_false_eq_true, li_0, li_1, li_2, li_3, li_4, li_5, li_6, li_7, li_8, li_9, li_10, li_12, li_15, li_16, li_20, li_30, li_34, li_38, li_40, li_63, li_64, li_65, li_78, li_120, li_1000, li_4000, li_10000, li_11077, li_255, li_65535, li_m1, li_m2, li_m1000000001, li_m1000000002, li_m1000000003, li_m1000000004, li_m1000000005, li_m1000000006, li_m1000000007, or_true, true_or, or_false, false_or, implies_true, true_implies, false_implies] <;> omega)), (by first | omega | decide | (simp only [fa_lt, fa_le, fa_eq, and_true, true_and, and_false, false_and, not_true_eq_false, not_false_eq_true, li_0, li_1, li_2, li_3, li_4, li_5, li_6, li_7, li_8, li_9, li_10, li_12, li_15, li_16, li_20, li_30, li_34, li_38, li_40, li_63, li_64, li_65, li_78, li_120, li_1000, li_4000, li_10000, li_11077, li_255, li_65535, li_m1, li_m2, li_m1000000001, li_m1000000002, li_m1000000003, li_m1000000004, li_m1000000005, li_m1000000006, li_m1000000007, or_true, true_or, or_false, false_or, implies_true, true_implies, false_implies] <;> omega)), (by first | omega | decide | (simp only [fa_lt, fa_le, fa_eq, and_true, true_and, and_false, false_and, not_true_eq_false, not_false_eq_true, li_0, li_1, li_2, li_3, li_4, li_5, li_6, li_7, li_8, li_9, li_10, li_12, li_15, li_16, li_20, li_30, li_34, li_38, li_40, li_63, li_64, li_65, li_78, li_120, li_1000, li_4000, li_10000, li_11077, li_255, li_65535, li_m1, li_m2, li_m1000000001, li_m1000000002, li_m1000000003, li_m1000000004, li_m1000000005, li_m1000000006, li_m1000000007, or_true, true_or, or_false, false_or, implies_true, true_implies, false_implies] <;> omega)), (by first | omega | decide | (simp only [fa_lt, fa_le, fa_eq, and_true, true_and, and_false, false_and, not_true_eq_false, not_false_eq_true, li_0, li_1, li_2, li_3, li_4, li_5, li_6, li_7, li_8, li_9, li_10, li_12, li_15, li_16, li_20, li_30, li_34, li_38, li_40, li_63, li_64, li_65, li_78, li_120, li_1000, li_4000, li_10000, li_11077, li_255, li_65535, li_m1, li_m2, li_m1000000001, li_m1000000002, li_m1000000003, li_m1000000004, li_m1000000005, li_m1000000006, li_m1000000007, or_true, true_or, or_false, false_or, implies_true, true_implies, false_implies] <;> omega)), (by first | omega | decide | (simp only [fa_lt, fa_le, fa_eq, and_true, true_and, and_false, false_and, not_true_eq_false, not_false_eq_true, li_0, li_1, li_2, li_3, li_4, li_5, li_6, li_7, li_8, li_9, li_10, li_12, li_15, li_16, li_20, li_30, li_34, li_38, li_40, li_63, li_64, li_65, li_78, li_120, li_1000, li_4000, li_10000, li_11077, li_255, li_65535, li_m1, li_m2, li_m1000000001, li_m1000000002, li_m1000000003, li_m1000000004, li_m1000000005, li_m1000000006, li_m1000000007, or_true, true_or, or_false, false_or, implies_true, true_implies, false_implies] <;> omega)), hP.sub [1, 0] rfl, hD.sub [1, 0] (by decide) rfl, hS, lv_sub hl [0, 4, 5, 6] rfl⟩
      · skip
        have tc_10 : ¬ mst.toInt < n_3.toInt := fun h => c_10 ((fa_lt _ _).mpr h)
        refine lv_iconst (v := 1) hx hb dX9_readRows_63 (by decide) ?_
        refine lv_goto (tgt := 68) hx hb dX9_readRows_64 (by decide) ?_
        have hPc := hP.sub (ws' := [(h0, .inr (7, [v0, v1, v2, v3, v4, v5, v6, v7, v8, v9, .ref e0, .int ts, .int b_y, .int e_y, .int s_y, .int u_y, .int w_y, v17, v18, v19, v20, v21, v22, v23, v24, v25, v26, v27])), (e0, .inl (ec, 120, .inl ef))]) [0, 1] rfl
        have hKc := hK.sub (tys' := [(ec, .int)]) [0] rfl
        have hDc := hD.sub (ws' := [(h0, .inr (7, [v0, v1, v2, v3, v4, v5, v6, v7, v8, v9, .ref e0, .int ts, .int b_y, .int e_y, .int s_y, .int u_y, .int w_y, v17, v18, v19, v20, v21, v22, v23, v24, v25, v26, v27])), (e0, .inl (ec, 120, .inl ef))]) [0, 1] (by decide) rfl
        have hFc := va_free (wc := [(h0, .inr (7, [v0, v1, v2, v3, v4, v5, v6, v7, v8, v9, .ref e0, .int ts, .int b_y, .int e_y, .int s_y, .int u_y, .int w_y, v17, v18, v19, v20, v21, v22, v23, v24, v25, v26, v27])), (e0, .inl (ec, 120, .inl ef))]) hD hS hA [0, 1] rfl
        refine va_callv (va_runV (As := [.int 1]) (rest := []) ⟨hx, hb, hml, hown, hts⟩ (m_must1g l dC dI ad h0 v0 v1 v2 v3 v4 v5 v6 v7 v8 v9 e0 ts b_y e_y s_y u_y w_y v17 v18 v19 v20 v21 v22 v23 v24 v25 v26 v27 ec ef H.size htm (by first | omega | decide | (simp only [fa_lt, fa_le, fa_eq, and_true, true_and, and_false, false_and, not_true_eq_false, not_false_eq_true, li_0, li_1, li_2, li_3, li_4, li_5, li_6, li_7, li_8, li_9, li_10, li_12, li_15, li_16, li_20, li_30, li_34, li_38, li_40, li_63, li_64, li_65, li_78, li_120, li_1000, li_4000, li_10000, li_11077, li_255, li_65535, li_m1, li_m2, li_m1000000001, li_m1000000002, li_m1000000003, li_m1000000004, li_m1000000005, li_m1000000006, li_m1000000007, or_true, true_or, or_false, false_or, implies_true, true_implies, false_implies] <;> omega)) (by first | omega | decide | (simp only [fa_lt, fa_le, fa_eq, and_true, true_and, and_false, false_and, not_true_eq_false, not_false_eq_true, li_0, li_1, li_2, li_3, li_4, li_5, li_6, li_7, li_8, li_9, li_10, li_12, li_15, li_16, li_20, li_30, li_34, li_38, li_40, li_63, li_64, li_65, li_78, li_120, li_1000, li_4000, li_10000, li_11077, li_255, li_65535, li_m1, li_m2, li_m1000000001, li_m1000000002, li_m1000000003, li_m1000000004, li_m1000000005, li_m1000000006, li_m1000000007, or_true, true_or, or_false, false_or, implies_true, true_implies, false_implies] <;> omega)) (by first | omega | decide | (simp only [fa_lt, fa_le, fa_eq, and_true, true_and, and_false, false_and, not_true_eq_false, not_false_eq_true, li_0, li_1, li_2, li_3, li_4, li_5, li_6, li_7, li_8, li_9, li_10, li_12, li_15, li_16, li_20, li_30, li_34, li_38, li_40, li_63, li_64, li_65, li_78, li_120, li_1000, li_4000, li_10000, li_11077, li_255, li_65535, li_m1, li_m2, li_m1000000001, li_m1000000002, li_m1000000003, li_m1000000004, li_m1000000005, li_m1000000006, li_m1000000007, or_true, true_or, or_false, false_or, implies_true, true_implies, false_implies] <;> omega))) (cwV 1 hts g_m_readRows_m_must1g_224 rfl rfl rfl (by decide +kernel) ⟨(Nat.le_of_ble_eq_true rfl), (Nat.le_of_ble_eq_true rfl)⟩) ⟨preM_blind, va_recv hKc hPc (ci := 7) (q0 := 0) rfl rfl, fun U hU hW => ⟨rfl, preM_at hU hW hPc hKc hDc hev⟩⟩ rfl rfl hl.1 rfl (lv_room (Nat.le_of_ble_eq_true rfl)) dX9_readRows_68 ⟨(Nat.le_of_ble_eq_true rfl), (Nat.le_of_ble_eq_true rfl)⟩) hS (fun q _ h => hFc q h) hFc (fun u t H1 locs ht hvm hw hB hz1 hk1 hS => ?_)
        obtain ⟨bg_17, en_18, so_19, va_20, iw_21, hq_22, hq_23, hq_24, hq_25, hq_26, hP1, hK1, hD1⟩ := hB
        rw [ht] at hP1
        have hK1 := va_K.moved hvm.symm hK1
        obtain ⟨hP, hD⟩ := va_join (wr := []) (w1 := [(h0, .inr (7, [v0, v1, v2, v3, v4, v5, v6, v7, v8, v9, .ref e0, .int ts, .int bg_17, .int en_18, .int so_19, .int va_20, .int iw_21, v17, v18, v19, v20, v21, v22, v23, v24, v25, v26, v27])), (e0, .inl (ec, 120, .inl ef))]) hP hD [0, 1] [] rfl rfl (by decide) (by decide) hk1 hFc hP1 hD1
        generalize H1 = H at hP hS ⊢
        have hP : va_P (dC, dI) vwCl [(h0, .inr (7, [v0, v1, v2, v3, v4, v5, v6, v7, v8, v9, .ref e0, .int ts, .int bg_17, .int en_18, .int so_19, .int va_20, .int iw_21, v17, v18, v19, v20, v21, v22, v23, v24, v25, v26, v27])), (e0, .inl (ec, 120, .inl ef))] H := hP
        have hD : va_D A [(h0, .inr (7, [v0, v1, v2, v3, v4, v5, v6, v7, v8, v9, .ref e0, .int ts, .int bg_17, .int en_18, .int so_19, .int va_20, .int iw_21, v17, v18, v19, v20, v21, v22, v23, v24, v25, v26, v27])), (e0, .inl (ec, 120, .inl ef))] := hD
        refine lv_iconst (v := 0) hx hb dX9_readRows_71 (by decide) ?_
        refine lv_istore (lv' := [(7, .int 0), (6, .int n_3), (5, .int b_y), (4, .int v4_5), (2, .long v2_5), (0, .ref h0), (1, .int mst)]) hx hb dX9_readRows_72 hl (by decide) rfl (fun ls hl => ?_)
        refine pp_loop (ι := Int32 × Int64) (fun ⟨v7_74, v2_74⟩ => (n_3.toInt - v7_74.toInt).toNat) (fun ⟨v7_74, v2_74⟩ H locs ls => (0 ≤ v7_74.toInt) ∧ va_P (dC, dI) vwCl [(h0, .inr (7, [v0, v1, v2, v3, v4, v5, v6, v7, v8, v9, .ref e0, .int ts, .int bg_17, .int en_18, .int so_19, .int va_20, .int iw_21, v17, v18, v19, v20, v21, v22, v23, v24, v25, v26, v27])), (e0, .inl (ec, 120, .inl ef))] H ∧ va_D A [(h0, .inr (7, [v0, v1, v2, v3, v4, v5, v6, v7, v8, v9, .ref e0, .int ts, .int bg_17, .int en_18, .int so_19, .int va_20, .int iw_21, v17, v18, v19, v20, v21, v22, v23, v24, v25, v26, v27])), (e0, .inl (ec, 120, .inl ef))] ∧ va_S A s.heap H locs ∧ lv_has ls 8 [(7, .int v7_74), (6, .int n_3), (5, .int b_y), (4, .int v4_5), (2, .long v2_74), (0, .ref h0), (1, .int mst)]) ?_ (0, v2_5) _ _ _ ⟨(by first | omega | decide | (simp only [fa_lt, fa_le, fa_eq, and_true, true_and, and_false, false_and, not_true_eq_false, not_false_eq_true, li_0, li_1, li_2, li_3, li_4, li_5, li_6, li_7, li_8, li_9, li_10, li_12, li_15, li_16, li_20, li_30, li_34, li_38, li_40, li_63, li_64, li_65, li_78, li_120, li_1000, li_4000, li_10000, li_11077, li_255, li_65535, li_m1, li_m2, li_m1000000001, li_m1000000002, li_m1000000003, li_m1000000004, li_m1000000005, li_m1000000006, li_m1000000007, or_true, true_or, or_false, false_or, implies_true, true_implies, false_implies] <;> omega)), hP.sub [0, 1] rfl, hD.sub [0, 1] (by decide) rfl, hS, lv_sub hl [0, 1, 2, 3, 4, 5, 6] rfl⟩
        intro k_27 ihk_27 u H locs ls hm hI
        obtain ⟨v7_74, v2_74⟩ := u
        obtain ⟨jk_27_0, hP, hD, hS, hl⟩ := hI
        have hmk_27 : (n_3.toInt - v7_74.toInt).toNat < k_27 + 1 := hm
        clear hm
        have jk_27_0 : 0 ≤ v7_74.toInt := jk_27_0
        have hl : lv_has ls 8 [(7, .int v7_74), (6, .int n_3), (5, .int b_y), (4, .int v4_5), (2, .long v2_74), (0, .ref h0), (1, .int mst)] := hl
        have hP : va_P (dC, dI) vwCl [(h0, .inr (7, [v0, v1, v2, v3, v4, v5, v6, v7, v8, v9, .ref e0, .int ts, .int bg_17, .int en_18, .int so_19, .int va_20, .int iw_21, v17, v18, v19, v20, v21, v22, v23, v24, v25, v26, v27])), (e0, .inl (ec, 120, .inl ef))] H := hP
        have hD : va_D A [(h0, .inr (7, [v0, v1, v2, v3, v4, v5, v6, v7, v8, v9, .ref e0, .int ts, .int bg_17, .int en_18, .int so_19, .int va_20, .int iw_21, v17, v18, v19, v20, v21, v22, v23, v24, v25, v26, v27])), (e0, .inl (ec, 120, .inl ef))] := hD
        refine lv_iload hx hb dX9_readRows_74 (lv_at hl 0 rfl) ?_
        refine lv_iload hx hb dX9_readRows_76 (lv_at hl 1 rfl) ?_
        have rc_28_x := pp_rng v7_74
        have rc_28_y := pp_rng n_3
        refine lv_icmp_ge (tgt := 125) hx hb dX9_readRows_78 (by decide) (fun c_28 => ?_) (fun c_28 => ?_)
        · skip
          have tc_28 : n_3.toInt ≤ v7_74.toInt := (fa_le _ _).mp c_28
          obtain ⟨n_29, en_29⟩ : ∃ y : Int32, y = v4_5 + 1 := ⟨_, rfl⟩
          have tn_29 : n_29.toInt = v4_5.toInt + 1 := pp_add en_29 rfl rfl (by omega) (by omega)
          refine lv_iinc (v := n_29) (lv' := [(4, .int n_29), (7, .int v7_74), (6, .int n_3), (5, .int b_y), (2, .long v2_74), (0, .ref h0), (1, .int mst)]) hx hb dX9_readRows_125 hl (k := 3) rfl (by rw [en_29]; rfl) (by decide) rfl (fun ls hl => ?_)
          clear en_29
          refine lv_goto (tgt := 5) hx hb dX9_readRows_128 (by decide) ?_
          exact ihk_1 (n_29, v2_74, bg_17, en_18, so_19, va_20, iw_21) _ _ _ (by show (9 - n_29.toInt).toNat < k_1; omega) ⟨(by first | omega | decide | (simp only [fa_lt, fa_le, fa_eq, and_true, true_and, and_false, false_and, not_true_eq_false, not_false_eq_true, li_0, li_1, li_2, li_3, li_4, li_5, li_6, li_7, li_8, li_9, li_10, li_12, li_15, li_16, li_20, li_30, li_34, li_38, li_40, li_63, li_64, li_65, li_78, li_120, li_1000, li_4000, li_10000, li_11077, li_255, li_65535, li_m1, li_m2, li_m1000000001, li_m1000000002, li_m1000000003, li_m1000000004, li_m1000000005, li_m1000000006, li_m1000000007, or_true, true_or, or_false, false_or, implies_true, true_implies, false_implies] <;> omega)), (by first | omega | decide | (simp only [fa_lt, fa_le, fa_eq, and_true, true_and, and_false, false_and, not_true_eq_false, not_false_eq_true, li_0, li_1, li_2, li_3, li_4, li_5, li_6, li_7, li_8, li_9, li_10, li_12, li_15, li_16, li_20, li_30, li_34, li_38, li_40, li_63, li_64, li_65, li_78, li_120, li_1000, li_4000, li_10000, li_11077, li_255, li_65535, li_m1, li_m2, li_m1000000001, li_m1000000002, li_m1000000003, li_m1000000004, li_m1000000005, li_m1000000006, li_m1000000007, or_true, true_or, or_false, false_or, implies_true, true_implies, false_implies] <;> omega)), (by first | omega | decide | (simp only [fa_lt, fa_le, fa_eq, and_true, true_and, and_false, false_and, not_true_eq_false, not_false_eq_true, li_0, li_1, li_2, li_3, li_4, li_5, li_6, li_7, li_8, li_9, li_10, li_12, li_15, li_16, li_20, li_30, li_34, li_38, li_40, li_63, li_64, li_65, li_78, li_120, li_1000, li_4000, li_10000, li_11077, li_255, li_65535, li_m1, li_m2, li_m1000000001, li_m1000000002, li_m1000000003, li_m1000000004, li_m1000000005, li_m1000000006, li_m1000000007, or_true, true_or, or_false, false_or, implies_true, true_implies, false_implies] <;> omega)), (by first | omega | decide | (simp only [fa_lt, fa_le, fa_eq, and_true, true_and, and_false, false_and, not_true_eq_false, not_false_eq_true, li_0, li_1, li_2, li_3, li_4, li_5, li_6, li_7, li_8, li_9, li_10, li_12, li_15, li_16, li_20, li_30, li_34, li_38, li_40, li_63, li_64, li_65, li_78, li_120, li_1000, li_4000, li_10000, li_11077, li_255, li_65535, li_m1, li_m2, li_m1000000001, li_m1000000002, li_m1000000003, li_m1000000004, li_m1000000005, li_m1000000006, li_m1000000007, or_true, true_or, or_false, false_or, implies_true, true_implies, false_implies] <;> omega)), (by first | omega | decide | (simp only [fa_lt, fa_le, fa_eq, and_true, true_and, and_false, false_and, not_true_eq_false, not_false_eq_true, li_0, li_1, li_2, li_3, li_4, li_5, li_6, li_7, li_8, li_9, li_10, li_12, li_15, li_16, li_20, li_30, li_34, li_38, li_40, li_63, li_64, li_65, li_78, li_120, li_1000, li_4000, li_10000, li_11077, li_255, li_65535, li_m1, li_m2, li_m1000000001, li_m1000000002, li_m1000000003, li_m1000000004, li_m1000000005, li_m1000000006, li_m1000000007, or_true, true_or, or_false, false_or, implies_true, true_implies, false_implies] <;> omega)), (by first | omega | decide | (simp only [fa_lt, fa_le, fa_eq, and_true, true_and, and_false, false_and, not_true_eq_false, not_false_eq_true, li_0, li_1, li_2, li_3, li_4, li_5, li_6, li_7, li_8, li_9, li_10, li_12, li_15, li_16, li_20, li_30, li_34, li_38, li_40, li_63, li_64, li_65, li_78, li_120, li_1000, li_4000, li_10000, li_11077, li_255, li_65535, li_m1, li_m2, li_m1000000001, li_m1000000002, li_m1000000003, li_m1000000004, li_m1000000005, li_m1000000006, li_m1000000007, or_true, true_or, or_false, false_or, implies_true, true_implies, false_implies] <;> omega)), hP.sub [0, 1] rfl, hD.sub [0, 1] (by decide) rfl, hS, lv_sub hl [0, 4, 5, 6] rfl⟩
        · skip
          have tc_28 : ¬ n_3.toInt ≤ v7_74.toInt := fun h => c_28 ((fa_le _ _).mpr h)
          refine lv_aload_n hx hb dX9_readRows_81 rfl (lv_at hl 5 rfl) ?_
          refine va_get (D := (dC, dI)) (ci := 7) (v := .int iw_21) (C := RX9) (T := TX9) (N := 28) hx hb hts inX9 hown hK hP 0 rfl rfl 16 (by decide) (hts _ (List.mem_of_getElem? (i := 9) rfl)) (fun _ h9 => h9) rfl dX9_readRows_82 ?_
          refine lv_if_ne (tgt := 125) hx hb dX9_readRows_85 (by decide) (fun c_30 => ?_) (fun c_30 => ?_)
          · skip
            have tc_30 : ¬ iw_21.toInt = 0 := fun h => c_30 ((fa_eq _ _).mpr h)
            obtain ⟨n_31, en_31⟩ : ∃ y : Int32, y = v4_5 + 1 := ⟨_, rfl⟩
            have tn_31 : n_31.toInt = v4_5.toInt + 1 := pp_add en_31 rfl rfl (by omega) (by omega)
            refine lv_iinc (v := n_31) (lv' := [(4, .int n_31), (7, .int v7_74), (6, .int n_3), (5, .int b_y), (2, .long v2_74), (0, .ref h0), (1, .int mst)]) hx hb dX9_readRows_125 hl (k := 3) rfl (by rw [en_31]; rfl) (by decide) rfl (fun ls hl => ?_)
            clear en_31
            refine lv_goto (tgt := 5) hx hb dX9_readRows_128 (by decide) ?_
            exact ihk_1 (n_31, v2_74, bg_17, en_18, so_19, va_20, iw_21) _ _ _ (by show (9 - n_31.toInt).toNat < k_1; omega) ⟨(by first | omega | decide | (simp only [fa_lt, fa_le, fa_eq, and_true, true_and, and_false, false_and, not_true_eq_false, not_false_eq_true, li_0, li_1, li_2, li_3, li_4, li_5, li_6, li_7, li_8, li_9, li_10, li_12, li_15, li_16, li_20, li_30, li_34, li_38, li_40, li_63, li_64, li_65, li_78, li_120, li_1000, li_4000, li_10000, li_11077, li_255, li_65535, li_m1, li_m2, li_m1000000001, li_m1000000002, li_m1000000003, li_m1000000004, li_m1000000005, li_m1000000006, li_m1000000007, or_true, true_or, or_false, false_or, implies_true, true_implies, false_implies] <;> omega)), (by first | omega | decide | (simp only [fa_lt, fa_le, fa_eq, and_true, true_and, and_false, false_and, not_true_eq_false, not_false_eq_true, li_0, li_1, li_2, li_3, li_4, li_5, li_6, li_7, li_8, li_9, li_10, li_12, li_15, li_16, li_20, li_30, li_34, li_38, li_40, li_63, li_64, li_65, li_78, li_120, li_1000, li_4000, li_10000, li_11077, li_255, li_65535, li_m1, li_m2, li_m1000000001, li_m1000000002, li_m1000000003, li_m1000000004, li_m1000000005, li_m1000000006, li_m1000000007, or_true, true_or, or_false, false_or, implies_true, true_implies, false_implies] <;> omega)), (by first | omega | decide | (simp only [fa_lt, fa_le, fa_eq, and_true, true_and, and_false, false_and, not_true_eq_false, not_false_eq_true, li_0, li_1, li_2, li_3, li_4, li_5, li_6, li_7, li_8, li_9, li_10, li_12, li_15, li_16, li_20, li_30, li_34, li_38, li_40, li_63, li_64, li_65, li_78, li_120, li_1000, li_4000, li_10000, li_11077, li_255, li_65535, li_m1, li_m2, li_m1000000001, li_m1000000002, li_m1000000003, li_m1000000004, li_m1000000005, li_m1000000006, li_m1000000007, or_true, true_or, or_false, false_or, implies_true, true_implies, false_implies] <;> omega)), (by first | omega | decide | (simp only [fa_lt, fa_le, fa_eq, and_true, true_and, and_false, false_and, not_true_eq_false, not_false_eq_true, li_0, li_1, li_2, li_3, li_4, li_5, li_6, li_7, li_8, li_9, li_10, li_12, li_15, li_16, li_20, li_30, li_34, li_38, li_40, li_63, li_64, li_65, li_78, li_120, li_1000, li_4000, li_10000, li_11077, li_255, li_65535, li_m1, li_m2, li_m1000000001, li_m1000000002, li_m1000000003, li_m1000000004, li_m1000000005, li_m1000000006, li_m1000000007, or_true, true_or, or_false, false_or, implies_true, true_implies, false_implies] <;> omega)), (by first | omega | decide | (simp only [fa_lt, fa_le, fa_eq, and_true, true_and, and_false, false_and, not_true_eq_false, not_false_eq_true, li_0, li_1, li_2, li_3, li_4, li_5, li_6, li_7, li_8, li_9, li_10, li_12, li_15, li_16, li_20, li_30, li_34, li_38, li_40, li_63, li_64, li_65, li_78, li_120, li_1000, li_4000, li_10000, li_11077, li_255, li_65535, li_m1, li_m2, li_m1000000001, li_m1000000002, li_m1000000003, li_m1000000004, li_m1000000005, li_m1000000006, li_m1000000007, or_true, true_or, or_false, false_or, implies_true, true_implies, false_implies] <;> omega)), (by first | omega | decide | (simp only [fa_lt, fa_le, fa_eq, and_true, true_and, and_false, false_and, not_true_eq_false, not_false_eq_true, li_0, li_1, li_2, li_3, li_4, li_5, li_6, li_7, li_8, li_9, li_10, li_12, li_15, li_16, li_20, li_30, li_34, li_38, li_40, li_63, li_64, li_65, li_78, li_120, li_1000, li_4000, li_10000, li_11077, li_255, li_65535, li_m1, li_m2, li_m1000000001, li_m1000000002, li_m1000000003, li_m1000000004, li_m1000000005, li_m1000000006, li_m1000000007, or_true, true_or, or_false, false_or, implies_true, true_implies, false_implies] <;> omega)), hP.sub [0, 1] rfl, hD.sub [0, 1] (by decide) rfl, hS, lv_sub hl [0, 4, 5, 6] rfl⟩
          · skip
            have tc_30 : iw_21.toInt = 0 := (fa_eq _ _).mp c_30
            refine lv_lload_n hx hb dX9_readRows_88 rfl (lv_at hl 4 rfl) ?_
            refine lv_aload_n hx hb dX9_readRows_89 rfl (lv_at hl 5 rfl) ?_
            refine va_get (D := (dC, dI)) (ci := 7) (v := .ref e0) (C := RX9) (T := TX9) (N := 28) hx hb hts inX9 hown hK hP 0 rfl rfl 10 (by decide) (hts _ (List.mem_of_getElem? (i := 19) rfl)) (fun _ h9 => h9) rfl dX9_readRows_90 ?_
            refine lv_iload hx hb dX9_readRows_93 (lv_at hl 2 rfl) ?_
            refine lv_iload hx hb dX9_readRows_95 (lv_at hl 0 rfl) ?_
            refine lv_iadd hx hb dX9_readRows_97 ?_
            refine lv_topi (fun n_32 en_32 => ?_)
            have tn_32 : n_32.toInt = b_y.toInt + v7_74.toInt := pp_add en_32 rfl rfl (by omega) (by omega)
            clear en_32
            refine va_iald hx hb hK hP 1 0 rfl rfl (vp_in_iff.mpr ⟨by omega, by omega⟩) dX9_readRows_98 ?_
            refine lv_topi (fun n_33 en_33 => ?_)
            clear en_33
            refine lv_bipush (v := 35) hx hb dX9_readRows_99 (by decide) ?_
            refine lv_icmp_ne (tgt := 116) hx hb dX9_readRows_101 (by decide) (fun c_34 => ?_) (fun c_34 => ?_)
            · skip
              have tc_34 : ¬ n_33.toInt = 35 := fun h => c_34 ((fa_eq _ _).mpr h)
              refine lv_lconst (v := 0) hx hb dX9_readRows_116 (by decide) ?_
              refine lv_lor hx hb dX9_readRows_117 ?_
              refine lv_topl (fun n_35 en_35 => ?_)
              clear en_35
              refine lv_lstore_n (lv' := [(2, .long n_35), (7, .int v7_74), (6, .int n_3), (5, .int b_y), (4, .int v4_5), (0, .ref h0), (1, .int mst)]) hx hb dX9_readRows_118 rfl hl (by decide) rfl (fun ls hl => ?_)
              obtain ⟨n_36, en_36⟩ : ∃ y : Int32, y = v7_74 + 1 := ⟨_, rfl⟩
              have tn_36 : n_36.toInt = v7_74.toInt + 1 := pp_add en_36 rfl rfl (by omega) (by omega)
              refine lv_iinc (v := n_36) (lv' := [(7, .int n_36), (2, .long n_35), (6, .int n_3), (5, .int b_y), (4, .int v4_5), (0, .ref h0), (1, .int mst)]) hx hb dX9_readRows_119 hl (k := 1) rfl (by rw [en_36]; rfl) (by decide) rfl (fun ls hl => ?_)
              clear en_36
              refine lv_goto (tgt := 74) hx hb dX9_readRows_122 (by decide) ?_
              exact ihk_27 (n_36, n_35) _ _ _ (by show (n_3.toInt - n_36.toInt).toNat < k_27; omega) ⟨(by first | omega | decide | (simp only [fa_lt, fa_le, fa_eq, and_true, true_and, and_false, false_and, not_true_eq_false, not_false_eq_true, li_0, li_1, li_2, li_3, li_4, li_5, li_6, li_7, li_8, li_9, li_10, li_12, li_15, li_16, li_20, li_30, li_34, li_38, li_40, li_63, li_64, li_65, li_78, li_120, li_1000, li_4000, li_10000, li_11077, li_255, li_65535, li_m1, li_m2, li_m1000000001, li_m1000000002, li_m1000000003, li_m1000000004, li_m1000000005, li_m1000000006, li_m1000000007, or_true, true_or, or_false, false_or, implies_true, true_implies, false_implies] <;> omega)), hP.sub [0, 1] rfl, hD.sub [0, 1] (by decide) rfl, hS, lv_sub hl [0, 2, 3, 4, 1, 5, 6] rfl⟩
            · skip
              have tc_34 : n_33.toInt = 35 := (fa_eq _ _).mp c_34
              refine lv_lconst (v := 1) hx hb dX9_readRows_104 (by decide) ?_
              refine lv_iload_n hx hb dX9_readRows_105 rfl (lv_at hl 6 rfl) ?_
              refine lv_iload hx hb dX9_readRows_106 (lv_at hl 3 rfl) ?_
              refine lv_imul hx hb dX9_readRows_108 ?_
              refine lv_topi (fun n_37 en_37 => ?_)
              clear en_37
              refine lv_iload hx hb dX9_readRows_109 (lv_at hl 0 rfl) ?_
              refine lv_iadd hx hb dX9_readRows_111 ?_
              refine lv_topi (fun n_38 en_38 => ?_)
              clear en_38
              obtain ⟨n_39, en_39⟩ : ∃ z : Int64, z = (1 : Int64) <<< (n_38.toInt64 &&& 63) := ⟨_, rfl⟩
              refine lv_lshl (v := n_39) hx hb dX9_readRows_112 en_39.symm ?_
              clear en_39
              refine lv_goto (tgt := 117) hx hb dX9_readRows_113 (by decide) ?_
              refine lv_lor hx hb dX9_readRows_117 ?_
              refine lv_topl (fun n_40 en_40 => ?_)
              clear en_40
              refine lv_lstore_n (lv' := [(2, .long n_40), (7, .int v7_74), (6, .int n_3), (5, .int b_y), (4, .int v4_5), (0, .ref h0), (1, .int mst)]) hx hb dX9_readRows_118 rfl hl (by decide) rfl (fun ls hl => ?_)
              obtain ⟨n_41, en_41⟩ : ∃ y : Int32, y = v7_74 + 1 := ⟨_, rfl⟩
              have tn_41 : n_41.toInt = v7_74.toInt + 1 := pp_add en_41 rfl rfl (by omega) (by omega)
              refine lv_iinc (v := n_41) (lv' := [(7, .int n_41), (2, .long n_40), (6, .int n_3), (5, .int b_y), (4, .int v4_5), (0, .ref h0), (1, .int mst)]) hx hb dX9_readRows_119 hl (k := 1) rfl (by rw [en_41]; rfl) (by decide) rfl (fun ls hl => ?_)
              clear en_41
              refine lv_goto (tgt := 74) hx hb dX9_readRows_122 (by decide) ?_
              exact ihk_27 (n_41, n_40) _ _ _ (by show (n_3.toInt - n_41.toInt).toNat < k_27; omega) ⟨(by first | omega | decide | (simp only [fa_lt, fa_le, fa_eq, and_true, true_and, and_false, false_and, not_true_eq_false, not_false_eq_true, li_0, li_1, li_2, li_3, li_4, li_5, li_6, li_7, li_8, li_9, li_10, li_12, li_15, li_16, li_20, li_30, li_34, li_38, li_40, li_63, li_64, li_65, li_78, li_120, li_1000, li_4000, li_10000, li_11077, li_255, li_65535, li_m1, li_m2, li_m1000000001, li_m1000000002, li_m1000000003, li_m1000000004, li_m1000000005, li_m1000000006, li_m1000000007, or_true, true_or, or_false, false_or, implies_true, true_implies, false_implies] <;> omega)), hP.sub [0, 1] rfl, hD.sub [0, 1] (by decide) rfl, hS, lv_sub hl [0, 2, 3, 4, 1, 5, 6] rfl⟩
  · skip
    have tc_2 : ¬ v4_5.toInt = 0 := fun h => c_2 ((fa_eq _ _).mpr h)
    refine lv_iload hx hb dX9_readRows_10 (lv_at hl 0 rfl) ?_
    refine lv_iload_n hx hb dX9_readRows_12 rfl (lv_at hl 3 rfl) ?_
    have rc_42_x := pp_rng v4_5
    have rc_42_y := pp_rng mst
    refine lv_icmp_ge (tgt := 131) hx hb dX9_readRows_13 (by decide) (fun c_42 => ?_) (fun c_42 => ?_)
    · skip
      have tc_42 : mst.toInt ≤ v4_5.toInt := (fa_le _ _).mp c_42
      refine lv_lload_n hx hb dX9_readRows_131 rfl (lv_at hl 1 rfl) ?_
      have hP9 := hP.sub (ws' := [(h0, .inr (7, [v0, v1, v2, v3, v4, v5, v6, v7, v8, v9, .ref e0, .int ts, .int b_y, .int e_y, .int s_y, .int u_y, .int w_y, v17, v18, v19, v20, v21, v22, v23, v24, v25, v26, v27])), (e0, .inl (ec, 120, .inl ef))]) [0, 1] rfl
      have hD9 := hD.sub (ws' := [(h0, .inr (7, [v0, v1, v2, v3, v4, v5, v6, v7, v8, v9, .ref e0, .int ts, .int b_y, .int e_y, .int s_y, .int u_y, .int w_y, v17, v18, v19, v20, v21, v22, v23, v24, v25, v26, v27])), (e0, .inl (ec, 120, .inl ef))]) [0, 1] (by decide) rfl
      have hK9 := hK.sub (tys' := [(ec, .int)]) [0] rfl
      exact W.lret (v := v2_5) hx hb hr (fun t ht hW => ⟨⟨v2_5, (), rfl, trivial, b_y, e_y, s_y, u_y, w_y, (by first | omega | decide | (simp only [fa_lt, fa_le, fa_eq, and_true, true_and, and_false, false_and, not_true_eq_false, not_false_eq_true, li_0, li_1, li_2, li_3, li_4, li_5, li_6, li_7, li_8, li_9, li_10, li_12, li_15, li_16, li_20, li_30, li_34, li_38, li_40, li_63, li_64, li_65, li_78, li_120, li_1000, li_4000, li_10000, li_11077, li_255, li_65535, li_m1, li_m2, li_m1000000001, li_m1000000002, li_m1000000003, li_m1000000004, li_m1000000005, li_m1000000006, li_m1000000007, or_true, true_or, or_false, false_or, implies_true, true_implies, false_implies] <;> omega)), (by first | omega | decide | (simp only [fa_lt, fa_le, fa_eq, and_true, true_and, and_false, false_and, not_true_eq_false, not_false_eq_true, li_0, li_1, li_2, li_3, li_4, li_5, li_6, li_7, li_8, li_9, li_10, li_12, li_15, li_16, li_20, li_30, li_34, li_38, li_40, li_63, li_64, li_65, li_78, li_120, li_1000, li_4000, li_10000, li_11077, li_255, li_65535, li_m1, li_m2, li_m1000000001, li_m1000000002, li_m1000000003, li_m1000000004, li_m1000000005, li_m1000000006, li_m1000000007, or_true, true_or, or_false, false_or, implies_true, true_implies, false_implies] <;> omega)), (by first | omega | decide | (simp only [fa_lt, fa_le, fa_eq, and_true, true_and, and_false, false_and, not_true_eq_false, not_false_eq_true, li_0, li_1, li_2, li_3, li_4, li_5, li_6, li_7, li_8, li_9, li_10, li_12, li_15, li_16, li_20, li_30, li_34, li_38, li_40, li_63, li_64, li_65, li_78, li_120, li_1000, li_4000, li_10000, li_11077, li_255, li_65535, li_m1, li_m2, li_m1000000001, li_m1000000002, li_m1000000003, li_m1000000004, li_m1000000005, li_m1000000006, li_m1000000007, or_true, true_or, or_false, false_or, implies_true, true_implies, false_implies] <;> omega)), (by first | omega | decide | (simp only [fa_lt, fa_le, fa_eq, and_true, true_and, and_false, false_and, not_true_eq_false, not_false_eq_true, li_0, li_1, li_2, li_3, li_4, li_5, li_6, li_7, li_8, li_9, li_10, li_12, li_15, li_16, li_20, li_30, li_34, li_38, li_40, li_63, li_64, li_65, li_78, li_120, li_1000, li_4000, li_10000, li_11077, li_255, li_65535, li_m1, li_m2, li_m1000000001, li_m1000000002, li_m1000000003, li_m1000000004, li_m1000000005, li_m1000000006, li_m1000000007, or_true, true_or, or_false, false_or, implies_true, true_implies, false_implies] <;> omega)), (by first | omega | decide | (simp only [fa_lt, fa_le, fa_eq, and_true, true_and, and_false, false_and, not_true_eq_false, not_false_eq_true, li_0, li_1, li_2, li_3, li_4, li_5, li_6, li_7, li_8, li_9, li_10, li_12, li_15, li_16, li_20, li_30, li_34, li_38, li_40, li_63, li_64, li_65, li_78, li_120, li_1000, li_4000, li_10000, li_11077, li_255, li_65535, li_m1, li_m2, li_m1000000001, li_m1000000002, li_m1000000003, li_m1000000004, li_m1000000005, li_m1000000006, li_m1000000007, or_true, true_or, or_false, false_or, implies_true, true_implies, false_implies] <;> omega)), by rw [ht]; exact hP9, va_K.moved hW.alike hK9, hD9⟩, hS.F ht⟩) hS.2.2 dX9_readRows_132
    · skip
      have tc_42 : ¬ mst.toInt ≤ v4_5.toInt := fun h => c_42 ((fa_le _ _).mpr h)
      refine lv_aload_n hx hb dX9_readRows_16 rfl (lv_at hl 2 rfl) ?_
      refine va_get (D := (dC, dI)) (ci := 7) (v := .int w_y) (C := RX9) (T := TX9) (N := 28) hx hb hts inX9 hown hK hP 0 rfl rfl 16 (by decide) (hts _ (List.mem_of_getElem? (i := 9) rfl)) (fun _ h9 => h9) rfl dX9_readRows_17 ?_
      refine lv_if_ne (tgt := 131) hx hb dX9_readRows_20 (by decide) (fun c_43 => ?_) (fun c_43 => ?_)
      · skip
        have tc_43 : ¬ w_y.toInt = 0 := fun h => c_43 ((fa_eq _ _).mpr h)
        refine lv_lload_n hx hb dX9_readRows_131 rfl (lv_at hl 1 rfl) ?_
        have hP9 := hP.sub (ws' := [(h0, .inr (7, [v0, v1, v2, v3, v4, v5, v6, v7, v8, v9, .ref e0, .int ts, .int b_y, .int e_y, .int s_y, .int u_y, .int w_y, v17, v18, v19, v20, v21, v22, v23, v24, v25, v26, v27])), (e0, .inl (ec, 120, .inl ef))]) [0, 1] rfl
        have hD9 := hD.sub (ws' := [(h0, .inr (7, [v0, v1, v2, v3, v4, v5, v6, v7, v8, v9, .ref e0, .int ts, .int b_y, .int e_y, .int s_y, .int u_y, .int w_y, v17, v18, v19, v20, v21, v22, v23, v24, v25, v26, v27])), (e0, .inl (ec, 120, .inl ef))]) [0, 1] (by decide) rfl
        have hK9 := hK.sub (tys' := [(ec, .int)]) [0] rfl
        exact W.lret (v := v2_5) hx hb hr (fun t ht hW => ⟨⟨v2_5, (), rfl, trivial, b_y, e_y, s_y, u_y, w_y, (by first | omega | decide | (simp only [fa_lt, fa_le, fa_eq, and_true, true_and, and_false, false_and, not_true_eq_false, not_false_eq_true, li_0, li_1, li_2, li_3, li_4, li_5, li_6, li_7, li_8, li_9, li_10, li_12, li_15, li_16, li_20, li_30, li_34, li_38, li_40, li_63, li_64, li_65, li_78, li_120, li_1000, li_4000, li_10000, li_11077, li_255, li_65535, li_m1, li_m2, li_m1000000001, li_m1000000002, li_m1000000003, li_m1000000004, li_m1000000005, li_m1000000006, li_m1000000007, or_true, true_or, or_false, false_or, implies_true, true_implies, false_implies] <;> omega)), (by first | omega | decide | (simp only [fa_lt, fa_le, fa_eq, and_true, true_and, and_false, false_and, not_true_eq_false, not_false_eq_true, li_0, li_1, li_2, li_3, li_4, li_5, li_6, li_7, li_8, li_9, li_10, li_12, li_15, li_16, li_20, li_30, li_34, li_38, li_40, li_63, li_64, li_65, li_78, li_120, li_1000, li_4000, li_10000, li_11077, li_255, li_65535, li_m1, li_m2, li_m1000000001, li_m1000000002, li_m1000000003, li_m1000000004, li_m1000000005, li_m1000000006, li_m1000000007, or_true, true_or, or_false, false_or, implies_true, true_implies, false_implies] <;> omega)), (by first | omega | decide | (simp only [fa_lt, fa_le, fa_eq, and_true, true_and, and_false, false_and, not_true_eq_false, not_false_eq_true, li_0, li_1, li_2, li_3, li_4, li_5, li_6, li_7, li_8, li_9, li_10, li_12, li_15, li_16, li_20, li_30, li_34, li_38, li_40, li_63, li_64, li_65, li_78, li_120, li_1000, li_4000, li_10000, li_11077, li_255, li_65535, li_m1, li_m2, li_m1000000001, li_m1000000002, li_m1000000003, li_m1000000004, li_m1000000005, li_m1000000006, li_m1000000007, or_true, true_or, or_false, false_or, implies_true, true_implies, false_implies] <;> omega)), (by first | omega | decide | (simp only [fa_lt, fa_le, fa_eq, and_true, true_and, and_false, false_and, not_true_eq_false, not_false_eq_true, li_0, li_1, li_2, li_3, li_4, li_5, li_6, li_7, li_8, li_9, li_10, li_12, li_15, li_16, li_20, li_30, li_34, li_38, li_40, li_63, li_64, li_65, li_78, li_120, li_1000, li_4000, li_10000, li_11077, li_255, li_65535, li_m1, li_m2, li_m1000000001, li_m1000000002, li_m1000000003, li_m1000000004, li_m1000000005, li_m1000000006, li_m1000000007, or_true, true_or, or_false, false_or, implies_true, true_implies, false_implies] <;> omega)), (by first | omega | decide | (simp only [fa_lt, fa_le, fa_eq, and_true, true_and, and_false, false_and, not_true_eq_false, not_false_eq_true, li_0, li_1, li_2, li_3, li_4, li_5, li_6, li_7, li_8, li_9, li_10, li_12, li_15, li_16, li_20, li_30, li_34, li_38, li_40, li_63, li_64, li_65, li_78, li_120, li_1000, li_4000, li_10000, li_11077, li_255, li_65535, li_m1, li_m2, li_m1000000001, li_m1000000002, li_m1000000003, li_m1000000004, li_m1000000005, li_m1000000006, li_m1000000007, or_true, true_or, or_false, false_or, implies_true, true_implies, false_implies] <;> omega)), by rw [ht]; exact hP9, va_K.moved hW.alike hK9, hD9⟩, hS.F ht⟩) hS.2.2 dX9_readRows_132
      · skip
        have tc_43 : w_y.toInt = 0 := (fa_eq _ _).mp c_43
        refine lv_aload_n hx hb dX9_readRows_23 rfl (lv_at hl 2 rfl) ?_
        refine va_get (D := (dC, dI)) (ci := 7) (v := .int s_y) (C := RX9) (T := TX9) (N := 28) hx hb hts inX9 hown hK hP 0 rfl rfl 14 (by decide) (hts _ (List.mem_of_getElem? (i := 3) rfl)) (fun _ h9 => h9) rfl dX9_readRows_24 ?_
        refine lv_iconst (v := 4) hx hb dX9_readRows_27 (by decide) ?_
        refine lv_icmp_ne (tgt := 131) hx hb dX9_readRows_28 (by decide) (fun c_44 => ?_) (fun c_44 => ?_)
        · skip
          have tc_44 : ¬ s_y.toInt = 4 := fun h => c_44 ((fa_eq _ _).mpr h)
          refine lv_lload_n hx hb dX9_readRows_131 rfl (lv_at hl 1 rfl) ?_
          have hP9 := hP.sub (ws' := [(h0, .inr (7, [v0, v1, v2, v3, v4, v5, v6, v7, v8, v9, .ref e0, .int ts, .int b_y, .int e_y, .int s_y, .int u_y, .int w_y, v17, v18, v19, v20, v21, v22, v23, v24, v25, v26, v27])), (e0, .inl (ec, 120, .inl ef))]) [0, 1] rfl
          have hD9 := hD.sub (ws' := [(h0, .inr (7, [v0, v1, v2, v3, v4, v5, v6, v7, v8, v9, .ref e0, .int ts, .int b_y, .int e_y, .int s_y, .int u_y, .int w_y, v17, v18, v19, v20, v21, v22, v23, v24, v25, v26, v27])), (e0, .inl (ec, 120, .inl ef))]) [0, 1] (by decide) rfl
          have hK9 := hK.sub (tys' := [(ec, .int)]) [0] rfl
          exact W.lret (v := v2_5) hx hb hr (fun t ht hW => ⟨⟨v2_5, (), rfl, trivial, b_y, e_y, s_y, u_y, w_y, (by first | omega | decide | (simp only [fa_lt, fa_le, fa_eq, and_true, true_and, and_false, false_and, not_true_eq_false, not_false_eq_true, li_0, li_1, li_2, li_3, li_4, li_5, li_6, li_7, li_8, li_9, li_10, li_12, li_15, li_16, li_20, li_30, li_34, li_38, li_40, li_63, li_64, li_65, li_78, li_120, li_1000, li_4000, li_10000, li_11077, li_255, li_65535, li_m1, li_m2, li_m1000000001, li_m1000000002, li_m1000000003, li_m1000000004, li_m1000000005, li_m1000000006, li_m1000000007, or_true, true_or, or_false, false_or, implies_true, true_implies, false_implies] <;> omega)), (by first | omega | decide | (simp only [fa_lt, fa_le, fa_eq, and_true, true_and, and_false, false_and, not_true_eq_false, not_false_eq_true, li_0, li_1, li_2, li_3, li_4, li_5, li_6, li_7, li_8, li_9, li_10, li_12, li_15, li_16, li_20, li_30, li_34, li_38, li_40, li_63, li_64, li_65, li_78, li_120, li_1000, li_4000, li_10000, li_11077, li_255, li_65535, li_m1, li_m2, li_m1000000001, li_m1000000002, li_m1000000003, li_m1000000004, li_m1000000005, li_m1000000006, li_m1000000007, or_true, true_or, or_false, false_or, implies_true, true_implies, false_implies] <;> omega)), (by first | omega | decide | (simp only [fa_lt, fa_le, fa_eq, and_true, true_and, and_false, false_and, not_true_eq_false, not_false_eq_true, li_0, li_1, li_2, li_3, li_4, li_5, li_6, li_7, li_8, li_9, li_10, li_12, li_15, li_16, li_20, li_30, li_34, li_38, li_40, li_63, li_64, li_65, li_78, li_120, li_1000, li_4000, li_10000, li_11077, li_255, li_65535, li_m1, li_m2, li_m1000000001, li_m1000000002, li_m1000000003, li_m1000000004, li_m1000000005, li_m1000000006, li_m1000000007, or_true, true_or, or_false, false_or, implies_true, true_implies, false_implies] <;> omega)), (by first | omega | decide | (simp only [fa_lt, fa_le, fa_eq, and_true, true_and, and_false, false_and, not_true_eq_false, not_false_eq_true, li_0, li_1, li_2, li_3, li_4, li_5, li_6, li_7, li_8, li_9, li_10, li_12, li_15, li_16, li_20, li_30, li_34, li_38, li_40, li_63, li_64, li_65, li_78, li_120, li_1000, li_4000, li_10000, li_11077, li_255, li_65535, li_m1, li_m2, li_m1000000001, li_m1000000002, li_m1000000003, li_m1000000004, li_m1000000005, li_m1000000006, li_m1000000007, or_true, true_or, or_false, false_or, implies_true, true_implies, false_implies] <;> omega)), (by first | omega | decide | (simp only [fa_lt, fa_le, fa_eq, and_true, true_and, and_false, false_and, not_true_eq_false, not_false_eq_true, li_0, li_1, li_2, li_3, li_4, li_5, li_6, li_7, li_8, li_9, li_10, li_12, li_15, li_16, li_20, li_30, li_34, li_38, li_40, li_63, li_64, li_65, li_78, li_120, li_1000, li_4000, li_10000, li_11077, li_255, li_65535, li_m1, li_m2, li_m1000000001, li_m1000000002, li_m1000000003, li_m1000000004, li_m1000000005, li_m1000000006, li_m1000000007, or_true, true_or, or_false, false_or, implies_true, true_implies, false_implies] <;> omega)), by rw [ht]; exact hP9, va_K.moved hW.alike hK9, hD9⟩, hS.F ht⟩) hS.2.2 dX9_readRows_132
        · skip
          have tc_44 : s_y.toInt = 4 := (fa_eq _ _).mp c_44
          refine lv_aload_n hx hb dX9_readRows_31 rfl (lv_at hl 2 rfl) ?_
          refine va_get (D := (dC, dI)) (ci := 7) (v := .int b_y) (C := RX9) (T := TX9) (N := 28) hx hb hts inX9 hown hK hP 0 rfl rfl 12 (by decide) (hts _ (List.mem_of_getElem? (i := 1) rfl)) (fun _ h9 => h9) rfl dX9_readRows_32 ?_
          refine lv_istore (lv' := [(5, .int b_y), (4, .int v4_5), (2, .long v2_5), (0, .ref h0), (1, .int mst)]) hx hb dX9_readRows_35 hl (by decide) rfl (fun ls hl => ?_)
          refine lv_aload_n hx hb dX9_readRows_37 rfl (lv_at hl 3 rfl) ?_
          refine va_get (D := (dC, dI)) (ci := 7) (v := .int e_y) (C := RX9) (T := TX9) (N := 28) hx hb hts inX9 hown hK hP 0 rfl rfl 13 (by decide) (hts _ (List.mem_of_getElem? (i := 2) rfl)) (fun _ h9 => h9) rfl dX9_readRows_38 ?_
          refine lv_aload_n hx hb dX9_readRows_41 rfl (lv_at hl 3 rfl) ?_
          refine va_get (D := (dC, dI)) (ci := 7) (v := .int b_y) (C := RX9) (T := TX9) (N := 28) hx hb hts inX9 hown hK hP 0 rfl rfl 12 (by decide) (hts _ (List.mem_of_getElem? (i := 1) rfl)) (fun _ h9 => h9) rfl dX9_readRows_42 ?_
          refine lv_isub hx hb dX9_readRows_45 ?_
          refine lv_topi (fun n_45 en_45 => ?_)
          have tn_45 : n_45.toInt = e_y.toInt - b_y.toInt := pp_sub en_45 rfl rfl (by omega) (by omega)
          clear en_45
          refine lv_istore (lv' := [(6, .int n_45), (5, .int b_y), (4, .int v4_5), (2, .long v2_5), (0, .ref h0), (1, .int mst)]) hx hb dX9_readRows_46 hl (by decide) rfl (fun ls hl => ?_)
          refine lv_aload_n hx hb dX9_readRows_48 rfl (lv_at hl 4 rfl) ?_
          refine lv_aload_n hx hb dX9_readRows_49 rfl (lv_at hl 4 rfl) ?_
          refine va_get (D := (dC, dI)) (ci := 7) (v := .int s_y) (C := RX9) (T := TX9) (N := 28) hx hb hts inX9 hown hK hP 0 rfl rfl 14 (by decide) (hts _ (List.mem_of_getElem? (i := 3) rfl)) (fun _ h9 => h9) rfl dX9_readRows_50 ?_
          refine lv_iconst (v := 4) hx hb dX9_readRows_53 (by decide) ?_
          refine lv_icmp_ne (tgt := 67) hx hb dX9_readRows_54 (by decide) (fun c_46 => ?_) (fun c_46 => ?_)
          · skip
            have tc_46 : ¬ s_y.toInt = 4 := fun h => c_46 ((fa_eq _ _).mpr h)
            exfalso; omega
          · skip
            have tc_46 : s_y.toInt = 4 := (fa_eq _ _).mp c_46
            refine lv_iload hx hb dX9_readRows_57 (lv_at hl 0 rfl) ?_
            refine lv_iload_n hx hb dX9_readRows_59 rfl (lv_at hl 5 rfl) ?_
            have rc_47_x := pp_rng n_45
            have rc_47_y := pp_rng mst
            refine lv_icmp_gt (tgt := 67) hx hb dX9_readRows_60 (by decide) (fun c_47 => ?_) (fun c_47 => ?_)
            · skip
              have tc_47 : mst.toInt < n_45.toInt := (fa_lt _ _).mp c_47
              refine lv_iconst (v := 0) hx hb dX9_readRows_67 (by decide) ?_
              have hPc := hP.sub (ws' := [(h0, .inr (7, [v0, v1, v2, v3, v4, v5, v6, v7, v8, v9, .ref e0, .int ts, .int b_y, .int e_y, .int s_y, .int u_y, .int w_y, v17, v18, v19, v20, v21, v22, v23, v24, v25, v26, v27]))]) [0] rfl
              have hKc := hK.sub (tys' := []) [] rfl
              have hDc := hD.sub (ws' := [(h0, .inr (7, [v0, v1, v2, v3, v4, v5, v6, v7, v8, v9, .ref e0, .int ts, .int b_y, .int e_y, .int s_y, .int u_y, .int w_y, v17, v18, v19, v20, v21, v22, v23, v24, v25, v26, v27]))]) [0] (by decide) rfl
              have hFc := va_free (wc := [(h0, .inr (7, [v0, v1, v2, v3, v4, v5, v6, v7, v8, v9, .ref e0, .int ts, .int b_y, .int e_y, .int s_y, .int u_y, .int w_y, v17, v18, v19, v20, v21, v22, v23, v24, v25, v26, v27]))]) hD hS hA [0] rfl
              refine va_callv (va_runV (As := [.int 0]) (rest := []) ⟨hx, hb, hml, hown, hts⟩ (m_must0 l dC dI ad h0 v0 v1 v2 v3 v4 v5 v6 v7 v8 v9 (.ref e0) (.int ts) (.int b_y) (.int e_y) (.int s_y) (.int u_y) w_y v17 v18 v19 v20 v21 v22 v23 v24 v25 v26 v27 H.size ) (cwV 1 hts g_m_readRows_m_must0_224 rfl rfl rfl (by decide +kernel) ⟨(Nat.le_of_ble_eq_true rfl), (Nat.le_of_ble_eq_true rfl)⟩) ⟨preM_blind, va_recv hKc hPc (ci := 7) (q0 := 0) rfl rfl, fun U hU hW => ⟨rfl, preM_at hU hW hPc hKc hDc hev⟩⟩ rfl rfl hl.1 rfl (lv_room (Nat.le_of_ble_eq_true rfl)) dX9_readRows_68 ⟨(Nat.le_of_ble_eq_true rfl), (Nat.le_of_ble_eq_true rfl)⟩) hS (fun q _ h => hFc q h) hFc (fun u t H1 locs ht hvm hw hB hz1 hk1 hS => ?_)
              obtain ⟨hP1, hK1, hD1⟩ := hB
              rw [ht] at hP1
              have hK1 := va_K.moved hvm.symm hK1
              obtain ⟨hP, hD⟩ := va_join (wr := [(e0, .inl (ec, 120, .inl ef))]) (w1 := [(h0, .inr (7, [v0, v1, v2, v3, v4, v5, v6, v7, v8, v9, .ref e0, .int ts, .int b_y, .int e_y, .int s_y, .int u_y, .int 1, v17, v18, v19, v20, v21, v22, v23, v24, v25, v26, v27]))]) hP hD [0] [1] rfl rfl (by decide) (by decide) hk1 hFc hP1 hD1
              generalize H1 = H at hP hS ⊢
              have hP : va_P (dC, dI) vwCl [(e0, .inl (ec, 120, .inl ef)), (h0, .inr (7, [v0, v1, v2, v3, v4, v5, v6, v7, v8, v9, .ref e0, .int ts, .int b_y, .int e_y, .int s_y, .int u_y, .int 1, v17, v18, v19, v20, v21, v22, v23, v24, v25, v26, v27]))] H := hP
              have hD : va_D A [(e0, .inl (ec, 120, .inl ef)), (h0, .inr (7, [v0, v1, v2, v3, v4, v5, v6, v7, v8, v9, .ref e0, .int ts, .int b_y, .int e_y, .int s_y, .int u_y, .int 1, v17, v18, v19, v20, v21, v22, v23, v24, v25, v26, v27]))] := hD
              refine lv_iconst (v := 0) hx hb dX9_readRows_71 (by decide) ?_
              refine lv_istore (lv' := [(7, .int 0), (6, .int n_45), (5, .int b_y), (4, .int v4_5), (2, .long v2_5), (0, .ref h0), (1, .int mst)]) hx hb dX9_readRows_72 hl (by decide) rfl (fun ls hl => ?_)
              refine pp_loop (ι := Int32 × Int64) (fun ⟨v7_74, v2_74⟩ => (n_45.toInt - v7_74.toInt).toNat) (fun ⟨v7_74, v2_74⟩ H locs ls => (0 ≤ v7_74.toInt) ∧ va_P (dC, dI) vwCl [(e0, .inl (ec, 120, .inl ef)), (h0, .inr (7, [v0, v1, v2, v3, v4, v5, v6, v7, v8, v9, .ref e0, .int ts, .int b_y, .int e_y, .int s_y, .int u_y, .int 1, v17, v18, v19, v20, v21, v22, v23, v24, v25, v26, v27]))] H ∧ va_D A [(e0, .inl (ec, 120, .inl ef)), (h0, .inr (7, [v0, v1, v2, v3, v4, v5, v6, v7, v8, v9, .ref e0, .int ts, .int b_y, .int e_y, .int s_y, .int u_y, .int 1, v17, v18, v19, v20, v21, v22, v23, v24, v25, v26, v27]))] ∧ va_S A s.heap H locs ∧ lv_has ls 8 [(7, .int v7_74), (6, .int n_45), (5, .int b_y), (4, .int v4_5), (2, .long v2_74), (0, .ref h0), (1, .int mst)]) ?_ (0, v2_5) _ _ _ ⟨(by first | omega | decide | (simp only [fa_lt, fa_le, fa_eq, and_true, true_and, and_false, false_and, not_true_eq_false, not_false_eq_true, li_0, li_1, li_2, li_3, li_4, li_5, li_6, li_7, li_8, li_9, li_10, li_12, li_15, li_16, li_20, li_30, li_34, li_38, li_40, li_63, li_64, li_65, li_78, li_120, li_1000, li_4000, li_10000, li_11077, li_255, li_65535, li_m1, li_m2, li_m1000000001, li_m1000000002, li_m1000000003, li_m1000000004, li_m1000000005, li_m1000000006, li_m1000000007, or_true, true_or, or_false, false_or, implies_true, true_implies, false_implies] <;> omega)), hP.sub [0, 1] rfl, hD.sub [0, 1] (by decide) rfl, hS, lv_sub hl [0, 1, 2, 3, 4, 5, 6] rfl⟩
              intro k_49 ihk_49 u H locs ls hm hI
              obtain ⟨v7_74, v2_74⟩ := u
              obtain ⟨jk_49_0, hP, hD, hS, hl⟩ := hI
              have hmk_49 : (n_45.toInt - v7_74.toInt).toNat < k_49 + 1 := hm
              clear hm
              have jk_49_0 : 0 ≤ v7_74.toInt := jk_49_0
              have hl : lv_has ls 8 [(7, .int v7_74), (6, .int n_45), (5, .int b_y), (4, .int v4_5), (2, .long v2_74), (0, .ref h0), (1, .int mst)] := hl
              have hP : va_P (dC, dI) vwCl [(e0, .inl (ec, 120, .inl ef)), (h0, .inr (7, [v0, v1, v2, v3, v4, v5, v6, v7, v8, v9, .ref e0, .int ts, .int b_y, .int e_y, .int s_y, .int u_y, .int 1, v17, v18, v19, v20, v21, v22, v23, v24, v25, v26, v27]))] H := hP
              have hD : va_D A [(e0, .inl (ec, 120, .inl ef)), (h0, .inr (7, [v0, v1, v2, v3, v4, v5, v6, v7, v8, v9, .ref e0, .int ts, .int b_y, .int e_y, .int s_y, .int u_y, .int 1, v17, v18, v19, v20, v21, v22, v23, v24, v25, v26, v27]))] := hD
              refine lv_iload hx hb dX9_readRows_74 (lv_at hl 0 rfl) ?_
              refine lv_iload hx hb dX9_readRows_76 (lv_at hl 1 rfl) ?_
              have rc_50_x := pp_rng v7_74
              have rc_50_y := pp_rng n_45
              refine lv_icmp_ge (tgt := 125) hx hb dX9_readRows_78 (by decide) (fun c_50 => ?_) (fun c_50 => ?_)
              · skip
                have tc_50 : n_45.toInt ≤ v7_74.toInt := (fa_le _ _).mp c_50
                obtain ⟨n_51, en_51⟩ : ∃ y : Int32, y = v4_5 + 1 := ⟨_, rfl⟩
                have tn_51 : n_51.toInt = v4_5.toInt + 1 := pp_add en_51 rfl rfl (by omega) (by omega)
                refine lv_iinc (v := n_51) (lv' := [(4, .int n_51), (7, .int v7_74), (6, .int n_45), (5, .int b_y), (2, .long v2_74), (0, .ref h0), (1, .int mst)]) hx hb dX9_readRows_125 hl (k := 3) rfl (by rw [en_51]; rfl) (by decide) rfl (fun ls hl => ?_)
                clear en_51
                refine lv_goto (tgt := 5) hx hb dX9_readRows_128 (by decide) ?_
                exact ihk_1 (n_51, v2_74, b_y, e_y, s_y, u_y, (1 : Int32)) _ _ _ (by show (9 - n_51.toInt).toNat < k_1; omega) ⟨(by first | omega | decide | (simp only [fa_lt, fa_le, fa_eq, and_true, true_and, and_false, false_and, not_true_eq_false, not_false_eq_true, li_0, li_1, li_2, li_3, li_4, li_5, li_6, li_7, li_8, li_9, li_10, li_12, li_15, li_16, li_20, li_30, li_34, li_38, li_40, li_63, li_64, li_65, li_78, li_120, li_1000, li_4000, li_10000, li_11077, li_255, li_65535, li_m1, li_m2, li_m1000000001, li_m1000000002, li_m1000000003, li_m1000000004, li_m1000000005, li_m1000000006, li_m1000000007, or_true, true_or, or_false, false_or, implies_true, true_implies, false_implies] <;> omega)), (by first | omega | decide | (simp only [fa_lt, fa_le, fa_eq, and_true, true_and, and_false, false_and, not_true_eq_false, not_false_eq_true, li_0, li_1, li_2, li_3, li_4, li_5, li_6, li_7, li_8, li_9, li_10, li_12, li_15, li_16, li_20, li_30, li_34, li_38, li_40, li_63, li_64, li_65, li_78, li_120, li_1000, li_4000, li_10000, li_11077, li_255, li_65535, li_m1, li_m2, li_m1000000001, li_m1000000002, li_m1000000003, li_m1000000004, li_m1000000005, li_m1000000006, li_m1000000007, or_true, true_or, or_false, false_or, implies_true, true_implies, false_implies] <;> omega)), (by first | omega | decide | (simp only [fa_lt, fa_le, fa_eq, and_true, true_and, and_false, false_and, not_true_eq_false, not_false_eq_true, li_0, li_1, li_2, li_3, li_4, li_5, li_6, li_7, li_8, li_9, li_10, li_12, li_15, li_16, li_20, li_30, li_34, li_38, li_40, li_63, li_64, li_65, li_78, li_120, li_1000, li_4000, li_10000, li_11077, li_255, li_65535, li_m1, li_m2, li_m1000000001, li_m1000000002, li_m1000000003, li_m1000000004, li_m1000000005, li_m1000000006, li_m1000000007, or_true, true_or, or_false, false_or, implies_true, true_implies, false_implies] <;> omega)), (by first | omega | decide | (simp only [fa_lt, fa_le, fa_eq, and_true, true_and, and_false, false_and, not_true_eq_false, not_false_eq_true, li_0, li_1, li_2, li_3, li_4, li_5, li_6, li_7, li_8, li_9, li_10, li_12, li_15, li_16, li_20, li_30, li_34, li_38, li_40, li_63, li_64, li_65, li_78, li_120, li_1000, li_4000, li_10000, li_11077, li_255, li_65535, li_m1, li_m2, li_m1000000001, li_m1000000002, li_m1000000003, li_m1000000004, li_m1000000005, li_m1000000006, li_m1000000007, or_true, true_or, or_false, false_or, implies_true, true_implies, false_implies] <;> omega)), (by first | omega | decide | (simp only [fa_lt, fa_le, fa_eq, and_true, true_and, and_false, false_and, not_true_eq_false, not_false_eq_true, li_0, li_1, li_2, li_3, li_4, li_5, li_6, li_7, li_8, li_9, li_10, li_12, li_15, li_16, li_20, li_30, li_34, li_38, li_40, li_63, li_64, li_65, li_78, li_120, li_1000, li_4000, li_10000, li_11077, li_255, li_65535, li_m1, li_m2, li_m1000000001, li_m1000000002, li_m1000000003, li_m1000000004, li_m1000000005, li_m1000000006, li_m1000000007, or_true, true_or, or_false, false_or, implies_true, true_implies, false_implies] <;> omega)), (by first | omega | decide | (simp only [fa_lt, fa_le, fa_eq, and_true, true_and, and_false, false_and, not_true_eq_false, not_false_eq_true, li_0, li_1, li_2, li_3, li_4, li_5, li_6, li_7, li_8, li_9, li_10, li_12, li_15, li_16, li_20, li_30, li_34, li_38, li_40, li_63, li_64, li_65, li_78, li_120, li_1000, li_4000, li_10000, li_11077, li_255, li_65535, li_m1, li_m2, li_m1000000001, li_m1000000002, li_m1000000003, li_m1000000004, li_m1000000005, li_m1000000006, li_m1000000007, or_true, true_or, or_false, false_or, implies_true, true_implies, false_implies] <;> omega)), hP.sub [1, 0] rfl, hD.sub [1, 0] (by decide) rfl, hS, lv_sub hl [0, 4, 5, 6] rfl⟩
              · skip
                have tc_50 : ¬ n_45.toInt ≤ v7_74.toInt := fun h => c_50 ((fa_le _ _).mpr h)
                refine lv_aload_n hx hb dX9_readRows_81 rfl (lv_at hl 5 rfl) ?_
                refine va_get (D := (dC, dI)) (ci := 7) (v := .int 1) (C := RX9) (T := TX9) (N := 28) hx hb hts inX9 hown hK hP 1 rfl rfl 16 (by decide) (hts _ (List.mem_of_getElem? (i := 9) rfl)) (fun _ h9 => h9) rfl dX9_readRows_82 ?_
                refine lv_if_ne (tgt := 125) hx hb dX9_readRows_85 (by decide) (fun _ => ?_) (fun c => absurd c (by decide))
                obtain ⟨n_52, en_52⟩ : ∃ y : Int32, y = v4_5 + 1 := ⟨_, rfl⟩
                have tn_52 : n_52.toInt = v4_5.toInt + 1 := pp_add en_52 rfl rfl (by omega) (by omega)
                refine lv_iinc (v := n_52) (lv' := [(4, .int n_52), (7, .int v7_74), (6, .int n_45), (5, .int b_y), (2, .long v2_74), (0, .ref h0), (1, .int mst)]) hx hb dX9_readRows_125 hl (k := 3) rfl (by rw [en_52]; rfl) (by decide) rfl (fun ls hl => ?_)
                clear en_52
                refine lv_goto (tgt := 5) hx hb dX9_readRows_128 (by decide) ?_
                exact ihk_1 (n_52, v2_74, b_y, e_y, s_y, u_y, (1 : Int32)) _ _ _ (by show (9 - n_52.toInt).toNat < k_1; omega) ⟨(by first | omega | decide | (simp only [fa_lt, fa_le, fa_eq, and_true, true_and, and_false, false_and, not_true_eq_false, not_false_eq_true, li_0, li_1, li_2, li_3, li_4, li_5, li_6, li_7, li_8, li_9, li_10, li_12, li_15, li_16, li_20, li_30, li_34, li_38, li_40, li_63, li_64, li_65, li_78, li_120, li_1000, li_4000, li_10000, li_11077, li_255, li_65535, li_m1, li_m2, li_m1000000001, li_m1000000002, li_m1000000003, li_m1000000004, li_m1000000005, li_m1000000006, li_m1000000007, or_true, true_or, or_false, false_or, implies_true, true_implies, false_implies] <;> omega)), (by first | omega | decide | (simp only [fa_lt, fa_le, fa_eq, and_true, true_and, and_false, false_and, not_true_eq_false, not_false_eq_true, li_0, li_1, li_2, li_3, li_4, li_5, li_6, li_7, li_8, li_9, li_10, li_12, li_15, li_16, li_20, li_30, li_34, li_38, li_40, li_63, li_64, li_65, li_78, li_120, li_1000, li_4000, li_10000, li_11077, li_255, li_65535, li_m1, li_m2, li_m1000000001, li_m1000000002, li_m1000000003, li_m1000000004, li_m1000000005, li_m1000000006, li_m1000000007, or_true, true_or, or_false, false_or, implies_true, true_implies, false_implies] <;> omega)), (by first | omega | decide | (simp only [fa_lt, fa_le, fa_eq, and_true, true_and, and_false, false_and, not_true_eq_false, not_false_eq_true, li_0, li_1, li_2, li_3, li_4, li_5, li_6, li_7, li_8, li_9, li_10, li_12, li_15, li_16, li_20, li_30, li_34, li_38, li_40, li_63, li_64, li_65, li_78, li_120, li_1000, li_4000, li_10000, li_11077, li_255, li_65535, li_m1, li_m2, li_m1000000001, li_m1000000002, li_m1000000003, li_m1000000004, li_m1000000005, li_m1000000006, li_m1000000007, or_true, true_or, or_false, false_or, implies_true, true_implies, false_implies] <;> omega)), (by first | omega | decide | (simp only [fa_lt, fa_le, fa_eq, and_true, true_and, and_false, false_and, not_true_eq_false, not_false_eq_true, li_0, li_1, li_2, li_3, li_4, li_5, li_6, li_7, li_8, li_9, li_10, li_12, li_15, li_16, li_20, li_30, li_34, li_38, li_40, li_63, li_64, li_65, li_78, li_120, li_1000, li_4000, li_10000, li_11077, li_255, li_65535, li_m1, li_m2, li_m1000000001, li_m1000000002, li_m1000000003, li_m1000000004, li_m1000000005, li_m1000000006, li_m1000000007, or_true, true_or, or_false, false_or, implies_true, true_implies, false_implies] <;> omega)), (by first | omega | decide | (simp only [fa_lt, fa_le, fa_eq, and_true, true_and, and_false, false_and, not_true_eq_false, not_false_eq_true, li_0, li_1, li_2, li_3, li_4, li_5, li_6, li_7, li_8, li_9, li_10, li_12, li_15, li_16, li_20, li_30, li_34, li_38, li_40, li_63, li_64, li_65, li_78, li_120, li_1000, li_4000, li_10000, li_11077, li_255, li_65535, li_m1, li_m2, li_m1000000001, li_m1000000002, li_m1000000003, li_m1000000004, li_m1000000005, li_m1000000006, li_m1000000007, or_true, true_or, or_false, false_or, implies_true, true_implies, false_implies] <;> omega)), (by first | omega | decide | (simp only [fa_lt, fa_le, fa_eq, and_true, true_and, and_false, false_and, not_true_eq_false, not_false_eq_true, li_0, li_1, li_2, li_3, li_4, li_5, li_6, li_7, li_8, li_9, li_10, li_12, li_15, li_16, li_20, li_30, li_34, li_38, li_40, li_63, li_64, li_65, li_78, li_120, li_1000, li_4000, li_10000, li_11077, li_255, li_65535, li_m1, li_m2, li_m1000000001, li_m1000000002, li_m1000000003, li_m1000000004, li_m1000000005, li_m1000000006, li_m1000000007, or_true, true_or, or_false, false_or, implies_true, true_implies, false_implies] <;> omega)), hP.sub [1, 0] rfl, hD.sub [1, 0] (by decide) rfl, hS, lv_sub hl [0, 4, 5, 6] rfl⟩
            · skip
              have tc_47 : ¬ mst.toInt < n_45.toInt := fun h => c_47 ((fa_lt _ _).mpr h)
              refine lv_iconst (v := 1) hx hb dX9_readRows_63 (by decide) ?_
              refine lv_goto (tgt := 68) hx hb dX9_readRows_64 (by decide) ?_
              have hPc := hP.sub (ws' := [(h0, .inr (7, [v0, v1, v2, v3, v4, v5, v6, v7, v8, v9, .ref e0, .int ts, .int b_y, .int e_y, .int s_y, .int u_y, .int w_y, v17, v18, v19, v20, v21, v22, v23, v24, v25, v26, v27])), (e0, .inl (ec, 120, .inl ef))]) [0, 1] rfl
              have hKc := hK.sub (tys' := [(ec, .int)]) [0] rfl
              have hDc := hD.sub (ws' := [(h0, .inr (7, [v0, v1, v2, v3, v4, v5, v6, v7, v8, v9, .ref e0, .int ts, .int b_y, .int e_y, .int s_y, .int u_y, .int w_y, v17, v18, v19, v20, v21, v22, v23, v24, v25, v26, v27])), (e0, .inl (ec, 120, .inl ef))]) [0, 1] (by decide) rfl
              have hFc := va_free (wc := [(h0, .inr (7, [v0, v1, v2, v3, v4, v5, v6, v7, v8, v9, .ref e0, .int ts, .int b_y, .int e_y, .int s_y, .int u_y, .int w_y, v17, v18, v19, v20, v21, v22, v23, v24, v25, v26, v27])), (e0, .inl (ec, 120, .inl ef))]) hD hS hA [0, 1] rfl
              refine va_callv (va_runV (As := [.int 1]) (rest := []) ⟨hx, hb, hml, hown, hts⟩ (m_must1g l dC dI ad h0 v0 v1 v2 v3 v4 v5 v6 v7 v8 v9 e0 ts b_y e_y s_y u_y w_y v17 v18 v19 v20 v21 v22 v23 v24 v25 v26 v27 ec ef H.size htm (by first | omega | decide | (simp only [fa_lt, fa_le, fa_eq, and_true, true_and, and_false, false_and, not_true_eq_false, not_false_eq_true, li_0, li_1, li_2, li_3, li_4, li_5, li_6, li_7, li_8, li_9, li_10, li_12, li_15, li_16, li_20, li_30, li_34, li_38, li_40, li_63, li_64, li_65, li_78, li_120, li_1000, li_4000, li_10000, li_11077, li_255, li_65535, li_m1, li_m2, li_m1000000001, li_m1000000002, li_m1000000003, li_m1000000004, li_m1000000005, li_m1000000006, li_m1000000007, or_true, true_or, or_false, false_or, implies_true, true_implies, false_implies] <;> omega)) (by first | omega | decide | (simp only [fa_lt, fa_le, fa_eq, and_true, true_and, and_false, false_and, not_true_eq_false, not_false_eq_true, li_0, li_1, li_2, li_3, li_4, li_5, li_6, li_7, li_8, li_9, li_10, li_12, li_15, li_16, li_20, li_30, li_34, li_38, li_40, li_63, li_64, li_65, li_78, li_120, li_1000, li_4000, li_10000, li_11077, li_255, li_65535, li_m1, li_m2, li_m1000000001, li_m1000000002, li_m1000000003, li_m1000000004, li_m1000000005, li_m1000000006, li_m1000000007, or_true, true_or, or_false, false_or, implies_true, true_implies, false_implies] <;> omega)) (by first | omega | decide | (simp only [fa_lt, fa_le, fa_eq, and_true, true_and, and_false, false_and, not_true_eq_false, not_false_eq_true, li_0, li_1, li_2, li_3, li_4, li_5, li_6, li_7, li_8, li_9, li_10, li_12, li_15, li_16, li_20, li_30, li_34, li_38, li_40, li_63, li_64, li_65, li_78, li_120, li_1000, li_4000, li_10000, li_11077, li_255, li_65535, li_m1, li_m2, li_m1000000001, li_m1000000002, li_m1000000003, li_m1000000004, li_m1000000005, li_m1000000006, li_m1000000007, or_true, true_or, or_false, false_or, implies_true, true_implies, false_implies] <;> omega))) (cwV 1 hts g_m_readRows_m_must1g_224 rfl rfl rfl (by decide +kernel) ⟨(Nat.le_of_ble_eq_true rfl), (Nat.le_of_ble_eq_true rfl)⟩) ⟨preM_blind, va_recv hKc hPc (ci := 7) (q0 := 0) rfl rfl, fun U hU hW => ⟨rfl, preM_at hU hW hPc hKc hDc hev⟩⟩ rfl rfl hl.1 rfl (lv_room (Nat.le_of_ble_eq_true rfl)) dX9_readRows_68 ⟨(Nat.le_of_ble_eq_true rfl), (Nat.le_of_ble_eq_true rfl)⟩) hS (fun q _ h => hFc q h) hFc (fun u t H1 locs ht hvm hw hB hz1 hk1 hS => ?_)
              obtain ⟨bg_54, en_55, so_56, va_57, iw_58, hq_59, hq_60, hq_61, hq_62, hq_63, hP1, hK1, hD1⟩ := hB
              rw [ht] at hP1
              have hK1 := va_K.moved hvm.symm hK1
              obtain ⟨hP, hD⟩ := va_join (wr := []) (w1 := [(h0, .inr (7, [v0, v1, v2, v3, v4, v5, v6, v7, v8, v9, .ref e0, .int ts, .int bg_54, .int en_55, .int so_56, .int va_57, .int iw_58, v17, v18, v19, v20, v21, v22, v23, v24, v25, v26, v27])), (e0, .inl (ec, 120, .inl ef))]) hP hD [0, 1] [] rfl rfl (by decide) (by decide) hk1 hFc hP1 hD1
              generalize H1 = H at hP hS ⊢
              have hP : va_P (dC, dI) vwCl [(h0, .inr (7, [v0, v1, v2, v3, v4, v5, v6, v7, v8, v9, .ref e0, .int ts, .int bg_54, .int en_55, .int so_56, .int va_57, .int iw_58, v17, v18, v19, v20, v21, v22, v23, v24, v25, v26, v27])), (e0, .inl (ec, 120, .inl ef))] H := hP
              have hD : va_D A [(h0, .inr (7, [v0, v1, v2, v3, v4, v5, v6, v7, v8, v9, .ref e0, .int ts, .int bg_54, .int en_55, .int so_56, .int va_57, .int iw_58, v17, v18, v19, v20, v21, v22, v23, v24, v25, v26, v27])), (e0, .inl (ec, 120, .inl ef))] := hD
              refine lv_iconst (v := 0) hx hb dX9_readRows_71 (by decide) ?_
              refine lv_istore (lv' := [(7, .int 0), (6, .int n_45), (5, .int b_y), (4, .int v4_5), (2, .long v2_5), (0, .ref h0), (1, .int mst)]) hx hb dX9_readRows_72 hl (by decide) rfl (fun ls hl => ?_)
              refine pp_loop (ι := Int32 × Int64) (fun ⟨v7_74, v2_74⟩ => (n_45.toInt - v7_74.toInt).toNat) (fun ⟨v7_74, v2_74⟩ H locs ls => (0 ≤ v7_74.toInt) ∧ va_P (dC, dI) vwCl [(h0, .inr (7, [v0, v1, v2, v3, v4, v5, v6, v7, v8, v9, .ref e0, .int ts, .int bg_54, .int en_55, .int so_56, .int va_57, .int iw_58, v17, v18, v19, v20, v21, v22, v23, v24, v25, v26, v27])), (e0, .inl (ec, 120, .inl ef))] H ∧ va_D A [(h0, .inr (7, [v0, v1, v2, v3, v4, v5, v6, v7, v8, v9, .ref e0, .int ts, .int bg_54, .int en_55, .int so_56, .int va_57, .int iw_58, v17, v18, v19, v20, v21, v22, v23, v24, v25, v26, v27])), (e0, .inl (ec, 120, .inl ef))] ∧ va_S A s.heap H locs ∧ lv_has ls 8 [(7, .int v7_74), (6, .int n_45), (5, .int b_y), (4, .int v4_5), (2, .long v2_74), (0, .ref h0), (1, .int mst)]) ?_ (0, v2_5) _ _ _ ⟨(by first | omega | decide | (simp only [fa_lt, fa_le, fa_eq, and_true, true_and, and_false, false_and, not_true_eq_false, not_false_eq_true, li_0, li_1, li_2, li_3, li_4, li_5, li_6, li_7, li_8, li_9, li_10, li_12, li_15, li_16, li_20, li_30, li_34, li_38, li_40, li_63, li_64, li_65, li_78, li_120, li_1000, li_4000, li_10000, li_11077, li_255, li_65535, li_m1, li_m2, li_m1000000001, li_m1000000002, li_m1000000003, li_m1000000004, li_m1000000005, li_m1000000006, li_m1000000007, or_true, true_or, or_false, false_or, implies_true, true_implies, false_implies] <;> omega)), hP.sub [0, 1] rfl, hD.sub [0, 1] (by decide) rfl, hS, lv_sub hl [0, 1, 2, 3, 4, 5, 6] rfl⟩
              intro k_64 ihk_64 u H locs ls hm hI
              obtain ⟨v7_74, v2_74⟩ := u
              obtain ⟨jk_64_0, hP, hD, hS, hl⟩ := hI
              have hmk_64 : (n_45.toInt - v7_74.toInt).toNat < k_64 + 1 := hm
              clear hm
              have jk_64_0 : 0 ≤ v7_74.toInt := jk_64_0
              have hl : lv_has ls 8 [(7, .int v7_74), (6, .int n_45), (5, .int b_y), (4, .int v4_5), (2, .long v2_74), (0, .ref h0), (1, .int mst)] := hl
              have hP : va_P (dC, dI) vwCl [(h0, .inr (7, [v0, v1, v2, v3, v4, v5, v6, v7, v8, v9, .ref e0, .int ts, .int bg_54, .int en_55, .int so_56, .int va_57, .int iw_58, v17, v18, v19, v20, v21, v22, v23, v24, v25, v26, v27])), (e0, .inl (ec, 120, .inl ef))] H := hP
              have hD : va_D A [(h0, .inr (7, [v0, v1, v2, v3, v4, v5, v6, v7, v8, v9, .ref e0, .int ts, .int bg_54, .int en_55, .int so_56, .int va_57, .int iw_58, v17, v18, v19, v20, v21, v22, v23, v24, v25, v26, v27])), (e0, .inl (ec, 120, .inl ef))] := hD
              refine lv_iload hx hb dX9_readRows_74 (lv_at hl 0 rfl) ?_
              refine lv_iload hx hb dX9_readRows_76 (lv_at hl 1 rfl) ?_
              have rc_65_x := pp_rng v7_74
              have rc_65_y := pp_rng n_45
              refine lv_icmp_ge (tgt := 125) hx hb dX9_readRows_78 (by decide) (fun c_65 => ?_) (fun c_65 => ?_)
              · skip
                have tc_65 : n_45.toInt ≤ v7_74.toInt := (fa_le _ _).mp c_65
                obtain ⟨n_66, en_66⟩ : ∃ y : Int32, y = v4_5 + 1 := ⟨_, rfl⟩
                have tn_66 : n_66.toInt = v4_5.toInt + 1 := pp_add en_66 rfl rfl (by omega) (by omega)
                refine lv_iinc (v := n_66) (lv' := [(4, .int n_66), (7, .int v7_74), (6, .int n_45), (5, .int b_y), (2, .long v2_74), (0, .ref h0), (1, .int mst)]) hx hb dX9_readRows_125 hl (k := 3) rfl (by rw [en_66]; rfl) (by decide) rfl (fun ls hl => ?_)
                clear en_66
                refine lv_goto (tgt := 5) hx hb dX9_readRows_128 (by decide) ?_
                exact ihk_1 (n_66, v2_74, bg_54, en_55, so_56, va_57, iw_58) _ _ _ (by show (9 - n_66.toInt).toNat < k_1; omega) ⟨(by first | omega | decide | (simp only [fa_lt, fa_le, fa_eq, and_true, true_and, and_false, false_and, not_true_eq_false, not_false_eq_true, li_0, li_1, li_2, li_3, li_4, li_5, li_6, li_7, li_8, li_9, li_10, li_12, li_15, li_16, li_20, li_30, li_34, li_38, li_40, li_63, li_64, li_65, li_78, li_120, li_1000, li_4000, li_10000, li_11077, li_255, li_65535, li_m1, li_m2, li_m1000000001, li_m1000000002, li_m1000000003, li_m1000000004, li_m1000000005, li_m1000000006, li_m1000000007, or_true, true_or, or_false, false_or, implies_true, true_implies, false_implies] <;> omega)), (by first | omega | decide | (simp only [fa_lt, fa_le, fa_eq, and_true, true_and, and_false, false_and, not_true_eq_false, not_false_eq_true, li_0, li_1, li_2, li_3, li_4, li_5, li_6, li_7, li_8, li_9, li_10, li_12, li_15, li_16, li_20, li_30, li_34, li_38, li_40, li_63, li_64, li_65, li_78, li_120, li_1000, li_4000, li_10000, li_11077, li_255, li_65535, li_m1, li_m2, li_m1000000001, li_m1000000002, li_m1000000003, li_m1000000004, li_m1000000005, li_m1000000006, li_m1000000007, or_true, true_or, or_false, false_or, implies_true, true_implies, false_implies] <;> omega)), (by first | omega | decide | (simp only [fa_lt, fa_le, fa_eq, and_true, true_and, and_false, false_and, not_true_eq_false, not_false_eq_true, li_0, li_1, li_2, li_3, li_4, li_5, li_6, li_7, li_8, li_9, li_10, li_12, li_15, li_16, li_20, li_30, li_34, li_38, li_40, li_63, li_64, li_65, li_78, li_120, li_1000, li_4000, li_10000, li_11077, li_255, li_65535, li_m1, li_m2, li_m1000000001, li_m1000000002, li_m1000000003, li_m1000000004, li_m1000000005, li_m1000000006, li_m1000000007, or_true, true_or, or_false, false_or, implies_true, true_implies, false_implies] <;> omega)), (by first | omega | decide | (simp only [fa_lt, fa_le, fa_eq, and_true, true_and, and_false, false_and, not_true_eq_false, not_false_eq_true, li_0, li_1, li_2, li_3, li_4, li_5, li_6, li_7, li_8, li_9, li_10, li_12, li_15, li_16, li_20, li_30, li_34, li_38, li_40, li_63, li_64, li_65, li_78, li_120, li_1000, li_4000, li_10000, li_11077, li_255, li_65535, li_m1, li_m2, li_m1000000001, li_m1000000002, li_m1000000003, li_m1000000004, li_m1000000005, li_m1000000006, li_m1000000007, or_true, true_or, or_false, false_or, implies_true, true_implies, false_implies] <;> omega)), (by first | omega | decide | (simp only [fa_lt, fa_le, fa_eq, and_true, true_and, and_false, false_and, not_true_eq_false, not_false_eq_true, li_0, li_1, li_2, li_3, li_4, li_5, li_6, li_7, li_8, li_9, li_10, li_12, li_15, li_16, li_20, li_30, li_34, li_38, li_40, li_63, li_64, li_65, li_78, li_120, li_1000, li_4000, li_10000, li_11077, li_255, li_65535, li_m1, li_m2, li_m1000000001, li_m1000000002, li_m1000000003, li_m1000000004, li_m1000000005, li_m1000000006, li_m1000000007, or_true, true_or, or_false, false_or, implies_true, true_implies, false_implies] <;> omega)), (by first | omega | decide | (simp only [fa_lt, fa_le, fa_eq, and_true, true_and, and_false, false_and, not_true_eq_false, not_false_eq_true, li_0, li_1, li_2, li_3, li_4, li_5, li_6, li_7, li_8, li_9, li_10, li_12, li_15, li_16, li_20, li_30, li_34, li_38, li_40, li_63, li_64, li_65, li_78, li_120, li_1000, li_4000, li_10000, li_11077, li_255, li_65535, li_m1, li_m2, li_m1000000001, li_m1000000002, li_m1000000003, li_m1000000004, li_m1000000005, li_m1000000006, li_m1000000007, or_true, true_or, or_false, false_or, implies_true, true_implies, false_implies] <;> omega)), hP.sub [0, 1] rfl, hD.sub [0, 1] (by decide) rfl, hS, lv_sub hl [0, 4, 5, 6] rfl⟩
              · skip
                have tc_65 : ¬ n_45.toInt ≤ v7_74.toInt := fun h => c_65 ((fa_le _ _).mpr h)
                refine lv_aload_n hx hb dX9_readRows_81 rfl (lv_at hl 5 rfl) ?_
                refine va_get (D := (dC, dI)) (ci := 7) (v := .int iw_58) (C := RX9) (T := TX9) (N := 28) hx hb hts inX9 hown hK hP 0 rfl rfl 16 (by decide) (hts _ (List.mem_of_getElem? (i := 9) rfl)) (fun _ h9 => h9) rfl dX9_readRows_82 ?_
                refine lv_if_ne (tgt := 125) hx hb dX9_readRows_85 (by decide) (fun c_67 => ?_) (fun c_67 => ?_)
                · skip
                  have tc_67 : ¬ iw_58.toInt = 0 := fun h => c_67 ((fa_eq _ _).mpr h)
                  obtain ⟨n_68, en_68⟩ : ∃ y : Int32, y = v4_5 + 1 := ⟨_, rfl⟩
                  have tn_68 : n_68.toInt = v4_5.toInt + 1 := pp_add en_68 rfl rfl (by omega) (by omega)
                  refine lv_iinc (v := n_68) (lv' := [(4, .int n_68), (7, .int v7_74), (6, .int n_45), (5, .int b_y), (2, .long v2_74), (0, .ref h0), (1, .int mst)]) hx hb dX9_readRows_125 hl (k := 3) rfl (by rw [en_68]; rfl) (by decide) rfl (fun ls hl => ?_)
                  clear en_68
                  refine lv_goto (tgt := 5) hx hb dX9_readRows_128 (by decide) ?_
                  exact ihk_1 (n_68, v2_74, bg_54, en_55, so_56, va_57, iw_58) _ _ _ (by show (9 - n_68.toInt).toNat < k_1; omega) ⟨(by first | omega | decide | (simp only [fa_lt, fa_le, fa_eq, and_true, true_and, and_false, false_and, not_true_eq_false, not_false_eq_true, li_0, li_1, li_2, li_3, li_4, li_5, li_6, li_7, li_8, li_9, li_10, li_12, li_15, li_16, li_20, li_30, li_34, li_38, li_40, li_63, li_64, li_65, li_78, li_120, li_1000, li_4000, li_10000, li_11077, li_255, li_65535, li_m1, li_m2, li_m1000000001, li_m1000000002, li_m1000000003, li_m1000000004, li_m1000000005, li_m1000000006, li_m1000000007, or_true, true_or, or_false, false_or, implies_true, true_implies, false_implies] <;> omega)), (by first | omega | decide | (simp only [fa_lt, fa_le, fa_eq, and_true, true_and, and_false, false_and, not_true_eq_false, not_false_eq_true, li_0, li_1, li_2, li_3, li_4, li_5, li_6, li_7, li_8, li_9, li_10, li_12, li_15, li_16, li_20, li_30, li_34, li_38, li_40, li_63, li_64, li_65, li_78, li_120, li_1000, li_4000, li_10000, li_11077, li_255, li_65535, li_m1, li_m2, li_m1000000001, li_m1000000002, li_m1000000003, li_m1000000004, li_m1000000005, li_m1000000006, li_m1000000007, or_true, true_or, or_false, false_or, implies_true, true_implies, false_implies] <;> omega)), (by first | omega | decide | (simp only [fa_lt, fa_le, fa_eq, and_true, true_and, and_false, false_and, not_true_eq_false, not_false_eq_true, li_0, li_1, li_2, li_3, li_4, li_5, li_6, li_7, li_8, li_9, li_10, li_12, li_15, li_16, li_20, li_30, li_34, li_38, li_40, li_63, li_64, li_65, li_78, li_120, li_1000, li_4000, li_10000, li_11077, li_255, li_65535, li_m1, li_m2, li_m1000000001, li_m1000000002, li_m1000000003, li_m1000000004, li_m1000000005, li_m1000000006, li_m1000000007, or_true, true_or, or_false, false_or, implies_true, true_implies, false_implies] <;> omega)), (by first | omega | decide | (simp only [fa_lt, fa_le, fa_eq, and_true, true_and, and_false, false_and, not_true_eq_false, not_false_eq_true, li_0, li_1, li_2, li_3, li_4, li_5, li_6, li_7, li_8, li_9, li_10, li_12, li_15, li_16, li_20, li_30, li_34, li_38, li_40, li_63, li_64, li_65, li_78, li_120, li_1000, li_4000, li_10000, li_11077, li_255, li_65535, li_m1, li_m2, li_m1000000001, li_m1000000002, li_m1000000003, li_m1000000004, li_m1000000005, li_m1000000006, li_m1000000007, or_true, true_or, or_false, false_or, implies_true, true_implies, false_implies] <;> omega)), (by first | omega | decide | (simp only [fa_lt, fa_le, fa_eq, and_true, true_and, and_false, false_and, not_true_eq_false, not_false_eq_true, li_0, li_1, li_2, li_3, li_4, li_5, li_6, li_7, li_8, li_9, li_10, li_12, li_15, li_16, li_20, li_30, li_34, li_38, li_40, li_63, li_64, li_65, li_78, li_120, li_1000, li_4000, li_10000, li_11077, li_255, li_65535, li_m1, li_m2, li_m1000000001, li_m1000000002, li_m1000000003, li_m1000000004, li_m1000000005, li_m1000000006, li_m1000000007, or_true, true_or, or_false, false_or, implies_true, true_implies, false_implies] <;> omega)), (by first | omega | decide | (simp only [fa_lt, fa_le, fa_eq, and_true, true_and, and_false, false_and, not_true_eq_false, not_false_eq_true, li_0, li_1, li_2, li_3, li_4, li_5, li_6, li_7, li_8, li_9, li_10, li_12, li_15, li_16, li_20, li_30, li_34, li_38, li_40, li_63, li_64, li_65, li_78, li_120, li_1000, li_4000, li_10000, li_11077, li_255, li_65535, li_m1, li_m2, li_m1000000001, li_m1000000002, li_m1000000003, li_m1000000004, li_m1000000005, li_m1000000006, li_m1000000007, or_true, true_or, or_false, false_or, implies_true, true_implies, false_implies] <;> omega)), hP.sub [0, 1] rfl, hD.sub [0, 1] (by decide) rfl, hS, lv_sub hl [0, 4, 5, 6] rfl⟩
                · skip
                  have tc_67 : iw_58.toInt = 0 := (fa_eq _ _).mp c_67
                  refine lv_lload_n hx hb dX9_readRows_88 rfl (lv_at hl 4 rfl) ?_
                  refine lv_aload_n hx hb dX9_readRows_89 rfl (lv_at hl 5 rfl) ?_
                  refine va_get (D := (dC, dI)) (ci := 7) (v := .ref e0) (C := RX9) (T := TX9) (N := 28) hx hb hts inX9 hown hK hP 0 rfl rfl 10 (by decide) (hts _ (List.mem_of_getElem? (i := 19) rfl)) (fun _ h9 => h9) rfl dX9_readRows_90 ?_
                  refine lv_iload hx hb dX9_readRows_93 (lv_at hl 2 rfl) ?_
                  refine lv_iload hx hb dX9_readRows_95 (lv_at hl 0 rfl) ?_
                  refine lv_iadd hx hb dX9_readRows_97 ?_
                  refine lv_topi (fun n_69 en_69 => ?_)
                  have tn_69 : n_69.toInt = b_y.toInt + v7_74.toInt := pp_add en_69 rfl rfl (by omega) (by omega)
                  clear en_69
                  refine va_iald hx hb hK hP 1 0 rfl rfl (vp_in_iff.mpr ⟨by omega, by omega⟩) dX9_readRows_98 ?_
                  refine lv_topi (fun n_70 en_70 => ?_)
                  clear en_70
                  refine lv_bipush (v := 35) hx hb dX9_readRows_99 (by decide) ?_
                  refine lv_icmp_ne (tgt := 116) hx hb dX9_readRows_101 (by decide) (fun c_71 => ?_) (fun c_71 => ?_)
                  · skip
                    have tc_71 : ¬ n_70.toInt = 35 := fun h => c_71 ((fa_eq _ _).mpr h)
                    refine lv_lconst (v := 0) hx hb dX9_readRows_116 (by decide) ?_
                    refine lv_lor hx hb dX9_readRows_117 ?_
                    refine lv_topl (fun n_72 en_72 => ?_)
                    clear en_72
                    refine lv_lstore_n (lv' := [(2, .long n_72), (7, .int v7_74), (6, .int n_45), (5, .int b_y), (4, .int v4_5), (0, .ref h0), (1, .int mst)]) hx hb dX9_readRows_118 rfl hl (by decide) rfl (fun ls hl => ?_)
                    obtain ⟨n_73, en_73⟩ : ∃ y : Int32, y = v7_74 + 1 := ⟨_, rfl⟩
                    have tn_73 : n_73.toInt = v7_74.toInt + 1 := pp_add en_73 rfl rfl (by omega) (by omega)
                    refine lv_iinc (v := n_73) (lv' := [(7, .int n_73), (2, .long n_72), (6, .int n_45), (5, .int b_y), (4, .int v4_5), (0, .ref h0), (1, .int mst)]) hx hb dX9_readRows_119 hl (k := 1) rfl (by rw [en_73]; rfl) (by decide) rfl (fun ls hl => ?_)
                    clear en_73
                    refine lv_goto (tgt := 74) hx hb dX9_readRows_122 (by decide) ?_
                    exact ihk_64 (n_73, n_72) _ _ _ (by show (n_45.toInt - n_73.toInt).toNat < k_64; omega) ⟨(by first | omega | decide | (simp only [fa_lt, fa_le, fa_eq, and_true, true_and, and_false, false_and, not_true_eq_false, not_false_eq_true, li_0, li_1, li_2, li_3, li_4, li_5, li_6, li_7, li_8, li_9, li_10, li_12, li_15, li_16, li_20, li_30, li_34, li_38, li_40, li_63, li_64, li_65, li_78, li_120, li_1000, li_4000, li_10000, li_11077, li_255, li_65535, li_m1, li_m2, li_m1000000001, li_m1000000002, li_m1000000003, li_m1000000004, li_m1000000005, li_m1000000006, li_m1000000007, or_true, true_or, or_false, false_or, implies_true, true_implies, false_implies] <;> omega)), hP.sub [0, 1] rfl, hD.sub [0, 1] (by decide) rfl, hS, lv_sub hl [0, 2, 3, 4, 1, 5, 6] rfl⟩
                  · skip
                    have tc_71 : n_70.toInt = 35 := (fa_eq _ _).mp c_71
                    refine lv_lconst (v := 1) hx hb dX9_readRows_104 (by decide) ?_
                    refine lv_iload_n hx hb dX9_readRows_105 rfl (lv_at hl 6 rfl) ?_
                    refine lv_iload hx hb dX9_readRows_106 (lv_at hl 3 rfl) ?_
                    refine lv_imul hx hb dX9_readRows_108 ?_
                    refine lv_topi (fun n_74 en_74 => ?_)
                    clear en_74
                    refine lv_iload hx hb dX9_readRows_109 (lv_at hl 0 rfl) ?_
                    refine lv_iadd hx hb dX9_readRows_111 ?_
                    refine lv_topi (fun n_75 en_75 => ?_)
                    clear en_75
                    obtain ⟨n_76, en_76⟩ : ∃ z : Int64, z = (1 : Int64) <<< (n_75.toInt64 &&& 63) := ⟨_, rfl⟩
                    refine lv_lshl (v := n_76) hx hb dX9_readRows_112 en_76.symm ?_
                    clear en_76
                    refine lv_goto (tgt := 117) hx hb dX9_readRows_113 (by decide) ?_
                    refine lv_lor hx hb dX9_readRows_117 ?_
                    refine lv_topl (fun n_77 en_77 => ?_)
                    clear en_77
                    refine lv_lstore_n (lv' := [(2, .long n_77), (7, .int v7_74), (6, .int n_45), (5, .int b_y), (4, .int v4_5), (0, .ref h0), (1, .int mst)]) hx hb dX9_readRows_118 rfl hl (by decide) rfl (fun ls hl => ?_)
                    obtain ⟨n_78, en_78⟩ : ∃ y : Int32, y = v7_74 + 1 := ⟨_, rfl⟩
                    have tn_78 : n_78.toInt = v7_74.toInt + 1 := pp_add en_78 rfl rfl (by omega) (by omega)
                    refine lv_iinc (v := n_78) (lv' := [(7, .int n_78), (2, .long n_77), (6, .int n_45), (5, .int b_y), (4, .int v4_5), (0, .ref h0), (1, .int mst)]) hx hb dX9_readRows_119 hl (k := 1) rfl (by rw [en_78]; rfl) (by decide) rfl (fun ls hl => ?_)
                    clear en_78
                    refine lv_goto (tgt := 74) hx hb dX9_readRows_122 (by decide) ?_
                    exact ihk_64 (n_78, n_77) _ _ _ (by show (n_45.toInt - n_78.toInt).toNat < k_64; omega) ⟨(by first | omega | decide | (simp only [fa_lt, fa_le, fa_eq, and_true, true_and, and_false, false_and, not_true_eq_false, not_false_eq_true, li_0, li_1, li_2, li_3, li_4, li_5, li_6, li_7, li_8, li_9, li_10, li_12, li_15, li_16, li_20, li_30, li_34, li_38, li_40, li_63, li_64, li_65, li_78, li_120, li_1000, li_4000, li_10000, li_11077, li_255, li_65535, li_m1, li_m2, li_m1000000001, li_m1000000002, li_m1000000003, li_m1000000004, li_m1000000005, li_m1000000006, li_m1000000007, or_true, true_or, or_false, false_or, implies_true, true_implies, false_implies] <;> omega)), hP.sub [0, 1] rfl, hD.sub [0, 1] (by decide) rfl, hS, lv_sub hl [0, 2, 3, 4, 1, 5, 6] rfl⟩

def w_m_after : List Cond := .code yX9_after cX9_after 4 (some .int) :: (([.methodLink RX9 231 yX9_isWord, .instanceMethod yX9_isWord, .selects RX9 yX9_isWord yX9_isWord, .initialized RX9, .code yX9_isWord cX9_isWord 4 (some .boolean), .fieldLink RX9 203 "LampShapesModel" "sort" "I", .methodLink RX9 209 yJ0_length_8abf5, .instanceMethod yJ0_length_8abf5, .selects RJ0 yJ0_length_8abf5 yJ0_length_8abf5, .initialized RJ0, .code yJ0_length_8abf5 cJ0_length_8abf5 1 (some .int), .fieldLink RJ0 9 "java/lang/String" "value" "[B", .methodLink RJ0 335 yJ0_coder_7d493, .instanceMethod yJ0_coder_7d493, .selects RJ0 yJ0_coder_7d493 yJ0_coder_7d493, .code yJ0_coder_7d493 cJ0_coder_7d493 1 (some .byte), .fieldLink RJ0 38 "java/lang/String" "COMPACT_STRINGS" "Z", .fieldLink RJ0 15 "java/lang/String" "coder" "B", .fieldLink RX9 32 "LampShapesModel" "tape" "[I", .fieldLink RX9 194 "LampShapesModel" "begins" "I", .methodLink RX9 213 yJ0_charAt_5068e, .instanceMethod yJ0_charAt_5068e, .selects RJ0 yJ0_charAt_5068e yJ0_charAt_5068e, .code yJ0_charAt_5068e cJ0_charAt_5068e 2 (some .char), .methodLink RJ0 492 yJ0_isLatin1_aae02, .instanceMethod yJ0_isLatin1_aae02, .selects RJ0 yJ0_isLatin1_aae02 yJ0_isLatin1_aae02, .code yJ0_isLatin1_aae02 cJ0_isLatin1_aae02 1 (some .boolean), .methodLink RJ0 495 yJ1_charAt_3b067, .static yJ1_charAt_3b067, .initialized RJ1, .code yJ1_charAt_3b067 cJ1_charAt_3b067 2 (some .char), .methodLink RJ1 9 yJ0_checkIndex_df160, .static yJ0_checkIndex_df160, .code yJ0_checkIndex_df160 cJ0_checkIndex_df160 2 none, .fieldLink RJ0 1053 "jdk/internal/util/Preconditions" "SIOOBE_FORMATTER" "Ljava/util/function/BiFunction;", .methodLink RJ0 1059 yJ3_checkIndex_8e157, .static yJ3_checkIndex_8e157, .initialized RJ3, .code yJ3_checkIndex_8e157 cJ3_checkIndex_8e157 3 (some .int), .methodLink RJ0 498 yJ2_charAt_3b067, .static yJ2_charAt_3b067, .initialized RJ2, .code yJ2_charAt_3b067 cJ2_charAt_3b067 2 (some .char), .methodLink RJ2 67 yJ2_checkIndex_2214a, .static yJ2_checkIndex_2214a, .code yJ2_checkIndex_2214a cJ2_checkIndex_2214a 2 none, .methodLink RJ2 48 yJ2_length_9d52b, .static yJ2_length_9d52b, .code yJ2_length_9d52b cJ2_length_9d52b 1 (some .int), .methodLink RJ2 414 yJ0_checkIndex_df160, .methodLink RJ2 71 yJ2_getChar_3b067, .static yJ2_getChar_3b067, .code yJ2_getChar_3b067 cJ2_getChar_3b067 2 (some .char), .fieldLink RJ2 44 "java/lang/StringUTF16" "$assertionsDisabled" "Z", .fieldLink RJ2 59 "java/lang/StringUTF16" "HI_BYTE_SHIFT" "I", .fieldLink RJ2 63 "java/lang/StringUTF16" "LO_BYTE_SHIFT" "I", .fieldLink RX9 191 "LampShapesModel" "ends" "I", .methodLink RX9 224 yX9_must, .instanceMethod yX9_must, .selects RX9 yX9_must yX9_must, .code yX9_must cX9_must 2 none, .fieldLink RX9 217 "LampShapesModel" "isWrong" "Z", .methodLink RX9 221 yX9_next, .instanceMethod yX9_next, .selects RX9 yX9_next yX9_next, .code yX9_next cX9_next 2 none, .methodLink RX9 197 yX9_byteAt, .instanceMethod yX9_byteAt, .selects RX9 yX9_byteAt yX9_byteAt, .code yX9_byteAt cX9_byteAt 2 (some .int), .fieldLink RX9 188 "LampShapesModel" "taped" "I", .fieldLink RX9 200 "LampShapesModel" "value" "I", .methodLink RX9 75 yX9_within, .static yX9_within, .code yX9_within cX9_within 3 (some .boolean), .methodLink RX9 206 yX9_isRowSign, .static yX9_isRowSign, .code yX9_isRowSign cX9_isRowSign 1 (some .boolean), .methodLink RX9 171 Lib.Math.min.name, .static Lib.Math.min.name, .initialized "java/lang/Math", .code Lib.Math.min.name Lib.Math.min.code 2 (some .int), .methodLink RX9 235 yX9_number, .instanceMethod yX9_number, .selects RX9 yX9_number yX9_number, .code yX9_number cX9_number 4 (some .int)] : List Cond) ++ wsX90)
set_option maxRecDepth 20000 in
theorem g_m_after_m_isWord_231 : GoodIn w_m_after (wsV RX9 231 RX9 yX9_isWord w_m_isWord) := goodIn_r _ [1, 2, 3, 4, 5, 6, 7, 8, 9, 10, 11, 12, 13, 14, 15, 16, 17, 18, 19, 20, 21, 22, 23, 24, 25, 26, 27, 28, 29, 30, 31, 32, 33, 34, 35, 36, 37, 38, 39, 40, 41, 42, 43, 44, 45, 46, 47, 48, 49, 50, 51, 52, 53, 54, 55, 56, 57, 58, 88, 89, 90, 91, 92, 93, 94, 95, 96, 97, 98, 99, 100, 101, 102, 103, 104, 105, 106, 107, 108, 109, 110, 111, 112, 113, 114, 115] rfl (by decide +kernel)
set_option maxRecDepth 20000 in
theorem g_m_after_m_mustG_224 : GoodIn w_m_after (wsV RX9 224 RX9 yX9_must w_m_mustG) := goodIn_r _ [59, 60, 61, 4, 62, 63, 64, 65, 66, 4, 67, 58, 20, 68, 69, 70, 71, 72, 19, 73, 74, 75, 76, 77, 78, 79, 6, 80, 81, 82, 83, 88, 89, 90, 91, 92, 93, 94, 95, 96, 97, 98, 99, 100, 101, 102, 103, 104, 105, 106, 107, 108, 109, 110, 111, 112, 113, 114, 115] rfl (by decide +kernel)
set_option maxRecDepth 20000 in
theorem g_m_after_m_number_235 : GoodIn w_m_after (wsV RX9 235 RX9 yX9_number w_m_number) := goodIn_r _ [84, 85, 86, 4, 87, 73, 6, 59, 60, 61, 4, 62, 63, 74, 75, 76, 64, 65, 66, 67, 58, 20, 68, 69, 70, 71, 72, 19, 77, 78, 79, 80, 81, 82, 83, 88, 89, 90, 91, 92, 93, 94, 95, 96, 97, 98, 99, 100, 101, 102, 103, 104, 105, 106, 107, 108, 109, 110, 111, 112, 113, 114, 115] rfl (by decide +kernel)
set_option maxHeartbeats 4000000 in
set_option maxRecDepth 100000 in
theorem m_after (l : Launch) (dC : Nat → ClassId) (dI : Nat → Nat → Nat) (ad : Nat → Nat) (h0 : Nat) (kk : Nat) (lo : Int32) (hi : Int32) (v0 : Value) (v1 : Value) (v2 : Value) (v3 : Value) (v4 : Value) (v5 : Value) (v6 : Value) (v7 : Value) (v8 : Value) (v9 : Value) (e0 : Nat) (ts : Int32) (bg : Int32) (en : Int32) (so : Int32) (va : Int32) (iw : Int32) (v17 : Value) (v18 : Value) (v19 : Value) (v20 : Value) (v21 : Value) (v22 : Value) (v23 : Value) (v24 : Value) (v25 : Value) (v26 : Value) (v27 : Value) (ec : ClassId) (ef : Nat → Int32) (sz : Nat) (hkk : kk < 26) (htm : 0 ≤ ts.toInt ∧ ts.toInt ≤ 120) (hlx : 0 ≤ bg.toInt ∧ en.toInt ≤ ts.toInt ∧ bg.toInt ≤ en.toInt) (hso : (so.toInt = 1 ∨ so.toInt = 3) → bg.toInt + 1 ≤ en.toInt) (hva : 0 ≤ va.toInt ∧ va.toInt ≤ 10000) : Met l yX9_after w_m_after ({ frames := 5, cells := 0, slots := 0, locals := 108 } : Room) (va_Pc [.ref h0, .ref (ad kk), .int lo, .int hi] (preT dC dI ad [(ec, .int)] [(h0, .inr (7, [v0, v1, v2, v3, v4, v5, v6, v7, v8, v9, .ref e0, .int ts, .int bg, .int en, .int so, .int va, .int iw, v17, v18, v19, v20, v21, v22, v23, v24, v25, v26, v27])), (e0, .inl (ec, 120, .inl ef))] sz)) (va_Qi (fun (r : Int32) (_ : Unit) => True) (fun _ t => ∃ (bg2 : Int32), ∃ (en2 : Int32), ∃ (so2 : Int32), ∃ (va2 : Int32), ∃ (iw2 : Int32), (0 ≤ bg2.toInt ∧ en2.toInt ≤ ts.toInt ∧ bg2.toInt ≤ en2.toInt) ∧ ((so2.toInt = 1 ∨ so2.toInt = 3) → bg2.toInt + 1 ≤ en2.toInt) ∧ (0 ≤ va2.toInt ∧ va2.toInt ≤ 10000) ∧ (iw2.toInt = 0 ∨ iw2.toInt = 1) ∧ (iw2.toInt = 0 → iw.toInt = 0 ∧ bg.toInt ≤ bg2.toInt) ∧ va_P (dC, dI) vwCl [(h0, .inr (7, [v0, v1, v2, v3, v4, v5, v6, v7, v8, v9, .ref e0, .int ts, .int bg2, .int en2, .int so2, .int va2, .int iw2, v17, v18, v19, v20, v21, v22, v23, v24, v25, v26, v27])), (e0, .inl (ec, 120, .inl ef))] t.heap ∧ va_K (dC, dI) vwCl [(ec, .int)] t ∧ va_D (va_A [(h0, .inr (7, [v0, v1, v2, v3, v4, v5, v6, v7, v8, v9, .ref e0, .int ts, .int bg, .int en, .int so, .int va, .int iw, v17, v18, v19, v20, v21, v22, v23, v24, v25, v26, v27])), (e0, .inl (ec, 120, .inl ef))] sz) [(h0, .inr (7, [v0, v1, v2, v3, v4, v5, v6, v7, v8, v9, .ref e0, .int ts, .int bg2, .int en2, .int so2, .int va2, .int iw2, v17, v18, v19, v20, v21, v22, v23, v24, v25, v26, v27])), (e0, .inl (ec, 120, .inl ef))]) (va_A [(h0, .inr (7, [v0, v1, v2, v3, v4, v5, v6, v7, v8, v9, .ref e0, .int ts, .int bg, .int en, .int so, .int va, .int iw, v17, v18, v19, v20, v21, v22, v23, v24, v25, v26, v27])), (e0, .inl (ec, 120, .inl ef))] sz)) 0 0 (va_A [(h0, .inr (7, [v0, v1, v2, v3, v4, v5, v6, v7, v8, v9, .ref e0, .int ts, .int bg, .int en, .int so, .int va, .int iw, v17, v18, v19, v20, v21, v22, v23, v24, v25, v26, v27])), (e0, .inl (ec, 120, .inl ef))] sz) := by
  refine Met.ofW (cc := cX9_after) (maxL := 4) (ret := (some .int)) (by decide) rfl ?_
  intro p e s m args below meth c s₁ B hml hv
  obtain ⟨rfl, ⟨hsz, hP, hK, hD0, hev⟩, hsf⟩ := hv
  have hx := B.exec
  have hb := B.bytes
  have hr := B.returns
  have hts := atoms_spec (ws := w_m_after) B.pre
  have hown : s.vm.findClass RX9 = some m.cls := findClass_of_methodNamed B.named
  have hlocks := B.notSynchronized
  have inX9 : ∀ w ∈ wsX90, w ∈ w_m_after := fun w h => List.mem_cons_of_mem _ (List.mem_append_right _ h)
  subst hsz
  have hD := hD0.self (sz := s.heap.size)
  generalize hAe : va_A [(h0, .inr (7, [v0, v1, v2, v3, v4, v5, v6, v7, v8, v9, .ref e0, .int ts, .int bg, .int en, .int so, .int va, .int iw, v17, v18, v19, v20, v21, v22, v23, v24, v25, v26, v27])), (e0, .inl (ec, 120, .inl ef))] s.heap.size = A at hD hsf ⊢
  have hA : ∀ q : Nat, s.heap.size ≤ q → A q := fun q h => by rw [← hAe]; exact Or.inr h
  have hS : va_S A s.heap s.heap [] := va_S.rf
  have hP : va_P (dC, dI) vwCl [(h0, .inr (7, [v0, v1, v2, v3, v4, v5, v6, v7, v8, v9, .ref e0, .int ts, .int bg, .int en, .int so, .int va, .int iw, v17, v18, v19, v20, v21, v22, v23, v24, v25, v26, v27])), (e0, .inl (ec, 120, .inl ef))] s.heap := hP
  have hl := lv_entry ([.ref h0, .ref (ad kk), .int lo, .int hi]) (n := 4) (Nat.le_of_ble_eq_true rfl)
  rw [lg_entry_eq]
  generalize (lg_sl ([.ref h0, .ref (ad kk), .int lo, .int hi]) ++ List.replicate (4 - (lg_sl ([.ref h0, .ref (ad kk), .int lo, .int hi])).length) Slot.unset).toArray = ls at hl ⊢
  have hl : lv_has ls 4 [(0, .ref h0), (1, .ref (ad kk)), (2, .int lo), (3, .int hi)] := hl
  refine lv_aload_n hx hb dX9_after_0 rfl (lv_at hl 0 rfl) ?_
  refine lv_aload_n hx hb dX9_after_1 rfl (lv_at hl 0 rfl) ?_
  refine lv_aload_n hx hb dX9_after_2 rfl (lv_at hl 1 rfl) ?_
  have hPc := hP.sub (ws' := [(h0, .inr (7, [v0, v1, v2, v3, v4, v5, v6, v7, v8, v9, .ref e0, .int ts, .int bg, .int en, .int so, .int va, .int iw, v17, v18, v19, v20, v21, v22, v23, v24, v25, v26, v27])), (e0, .inl (ec, 120, .inl ef))]) [0, 1] rfl
  have hKc := hK.sub (tys' := [(ec, .int)]) [0] rfl
  refine vp_callSi (W.runV (As := [.ref (ad kk)]) (rest := [.ref h0]) ⟨hx, hb, hml, hown, hts⟩ (m_isWord l dC dI ad h0 kk v0 v1 v2 v3 v4 v5 v6 v7 v8 v9 e0 ts bg en so va (.int iw) v17 v18 v19 v20 v21 v22 v23 v24 v25 v26 v27 ec ef hkk htm hlx) (cwV 1 hts g_m_after_m_isWord_231 rfl rfl rfl (by decide +kernel) ⟨(Nat.le_of_ble_eq_true rfl), (Nat.le_of_ble_eq_true rfl)⟩) ⟨preST_blind, va_recv hKc hPc (ci := 7) (q0 := 0) rfl rfl, fun U hU hW => ⟨rfl, preS_at hU hW hPc hKc hev, sf_at hsf hS (fun _ h => h.elim) hU hW⟩⟩ rfl rfl hl.1 rfl (lv_room (Nat.le_of_ble_eq_true rfl)) dX9_after_3 ⟨(Nat.le_of_ble_eq_true rfl), (Nat.le_of_ble_eq_true rfl)⟩) (fun r_1 hw => ?_)
  have hr_1 : r_1.toInt = 0 ∨ (r_1.toInt = 1 ∧ so.toInt = 1) := hw
  have hPc := hP.sub (ws' := [(h0, .inr (7, [v0, v1, v2, v3, v4, v5, v6, v7, v8, v9, .ref e0, .int ts, .int bg, .int en, .int so, .int va, .int iw, v17, v18, v19, v20, v21, v22, v23, v24, v25, v26, v27])), (e0, .inl (ec, 120, .inl ef))]) [0, 1] rfl
  have hKc := hK.sub (tys' := [(ec, .int)]) [0] rfl
  have hDc := hD.sub (ws' := [(h0, .inr (7, [v0, v1, v2, v3, v4, v5, v6, v7, v8, v9, .ref e0, .int ts, .int bg, .int en, .int so, .int va, .int iw, v17, v18, v19, v20, v21, v22, v23, v24, v25, v26, v27])), (e0, .inl (ec, 120, .inl ef))]) [0, 1] (by decide) rfl
  have hFc := va_free (wc := [(h0, .inr (7, [v0, v1, v2, v3, v4, v5, v6, v7, v8, v9, .ref e0, .int ts, .int bg, .int en, .int so, .int va, .int iw, v17, v18, v19, v20, v21, v22, v23, v24, v25, v26, v27])), (e0, .inl (ec, 120, .inl ef))]) hD hS hA [0, 1] rfl
  refine va_callv (va_runV (As := [.int r_1]) (rest := []) ⟨hx, hb, hml, hown, hts⟩ (m_mustG l dC dI ad h0 r_1 v0 v1 v2 v3 v4 v5 v6 v7 v8 v9 e0 ts bg en so va iw v17 v18 v19 v20 v21 v22 v23 v24 v25 v26 v27 ec ef s.heap.size htm hlx hso hva) (cwV 1 hts g_m_after_m_mustG_224 rfl rfl rfl (by decide +kernel) ⟨(Nat.le_of_ble_eq_true rfl), (Nat.le_of_ble_eq_true rfl)⟩) ⟨preM_blind, va_recv hKc hPc (ci := 7) (q0 := 0) rfl rfl, fun U hU hW => ⟨rfl, preM_at hU hW hPc hKc hDc hev⟩⟩ rfl rfl hl.1 rfl (lv_room (Nat.le_of_ble_eq_true rfl)) dX9_after_6 ⟨(Nat.le_of_ble_eq_true rfl), (Nat.le_of_ble_eq_true rfl)⟩) hS (fun q _ h => hFc q h) hFc (fun u t H1 locs ht hvm hw hB hz1 hk1 hS => ?_)
  obtain ⟨bg_3, en_4, so_5, va_6, iw_7, hq_8, hq_9, hq_10, hq_11, hq_12, hP1, hK1, hD1⟩ := hB
  rw [ht] at hP1
  have hK1 := va_K.moved hvm.symm hK1
  obtain ⟨hP, hD⟩ := va_join (wr := []) (w1 := [(h0, .inr (7, [v0, v1, v2, v3, v4, v5, v6, v7, v8, v9, .ref e0, .int ts, .int bg_3, .int en_4, .int so_5, .int va_6, .int iw_7, v17, v18, v19, v20, v21, v22, v23, v24, v25, v26, v27])), (e0, .inl (ec, 120, .inl ef))]) hP hD [0, 1] [] rfl rfl (by decide) (by decide) hk1 hFc hP1 hD1
  generalize H1 = H at hP hS ⊢
  have hP : va_P (dC, dI) vwCl [(h0, .inr (7, [v0, v1, v2, v3, v4, v5, v6, v7, v8, v9, .ref e0, .int ts, .int bg_3, .int en_4, .int so_5, .int va_6, .int iw_7, v17, v18, v19, v20, v21, v22, v23, v24, v25, v26, v27])), (e0, .inl (ec, 120, .inl ef))] H := hP
  have hD : va_D A [(h0, .inr (7, [v0, v1, v2, v3, v4, v5, v6, v7, v8, v9, .ref e0, .int ts, .int bg_3, .int en_4, .int so_5, .int va_6, .int iw_7, v17, v18, v19, v20, v21, v22, v23, v24, v25, v26, v27])), (e0, .inl (ec, 120, .inl ef))] := hD
  refine lv_aload_n hx hb dX9_after_9 rfl (lv_at hl 0 rfl) ?_
  refine lv_iload_n hx hb dX9_after_10 rfl (lv_at hl 2 rfl) ?_
  refine lv_iload_n hx hb dX9_after_11 rfl (lv_at hl 3 rfl) ?_
  have hPc := hP.sub (ws' := [(h0, .inr (7, [v0, v1, v2, v3, v4, v5, v6, v7, v8, v9, .ref e0, .int ts, .int bg_3, .int en_4, .int so_5, .int va_6, .int iw_7, v17, v18, v19, v20, v21, v22, v23, v24, v25, v26, v27])), (e0, .inl (ec, 120, .inl ef))]) [0, 1] rfl
  have hKc := hK.sub (tys' := [(ec, .int)]) [0] rfl
  have hDc := hD.sub (ws' := [(h0, .inr (7, [v0, v1, v2, v3, v4, v5, v6, v7, v8, v9, .ref e0, .int ts, .int bg_3, .int en_4, .int so_5, .int va_6, .int iw_7, v17, v18, v19, v20, v21, v22, v23, v24, v25, v26, v27])), (e0, .inl (ec, 120, .inl ef))]) [0, 1] (by decide) rfl
  have hFc := va_free (wc := [(h0, .inr (7, [v0, v1, v2, v3, v4, v5, v6, v7, v8, v9, .ref e0, .int ts, .int bg_3, .int en_4, .int so_5, .int va_6, .int iw_7, v17, v18, v19, v20, v21, v22, v23, v24, v25, v26, v27])), (e0, .inl (ec, 120, .inl ef))]) hD hS hA [0, 1] rfl
  refine va_calli (va_runV (As := [.int lo, .int hi]) (rest := []) ⟨hx, hb, hml, hown, hts⟩ (m_number l dC dI ad h0 lo hi v0 v1 v2 v3 v4 v5 v6 v7 v8 v9 e0 ts bg_3 en_4 so_5 va_6 iw_7 v17 v18 v19 v20 v21 v22 v23 v24 v25 v26 v27 ec ef H.size htm hq_8 hq_9 hq_10) (cwV 2 hts g_m_after_m_number_235 rfl rfl rfl (by decide +kernel) ⟨(Nat.le_of_ble_eq_true rfl), (Nat.le_of_ble_eq_true rfl)⟩) ⟨preM_blind, va_recv hKc hPc (ci := 7) (q0 := 0) rfl rfl, fun U hU hW => ⟨rfl, preM_at hU hW hPc hKc hDc hev⟩⟩ rfl rfl hl.1 rfl (lv_room (Nat.le_of_ble_eq_true rfl)) dX9_after_12 ⟨(Nat.le_of_ble_eq_true rfl), (Nat.le_of_ble_eq_true rfl)⟩) hS (fun q _ h => hFc q h) hFc (fun r_13 u t H1 locs ht hvm hw hB hz1 hk1 hS => ?_)
  obtain ⟨bg_14, en_15, so_16, va_17, iw_18, hq_19, hq_20, hq_21, hq_22, hq_23, hP1, hK1, hD1⟩ := hB
  rw [ht] at hP1
  have hK1 := va_K.moved hvm.symm hK1
  obtain ⟨hP, hD⟩ := va_join (wr := []) (w1 := [(h0, .inr (7, [v0, v1, v2, v3, v4, v5, v6, v7, v8, v9, .ref e0, .int ts, .int bg_14, .int en_15, .int so_16, .int va_17, .int iw_18, v17, v18, v19, v20, v21, v22, v23, v24, v25, v26, v27])), (e0, .inl (ec, 120, .inl ef))]) hP hD [0, 1] [] rfl rfl (by decide) (by decide) hk1 hFc hP1 hD1
  generalize H1 = H at hP hS ⊢
  have hP : va_P (dC, dI) vwCl [(h0, .inr (7, [v0, v1, v2, v3, v4, v5, v6, v7, v8, v9, .ref e0, .int ts, .int bg_14, .int en_15, .int so_16, .int va_17, .int iw_18, v17, v18, v19, v20, v21, v22, v23, v24, v25, v26, v27])), (e0, .inl (ec, 120, .inl ef))] H := hP
  have hD : va_D A [(h0, .inr (7, [v0, v1, v2, v3, v4, v5, v6, v7, v8, v9, .ref e0, .int ts, .int bg_14, .int en_15, .int so_16, .int va_17, .int iw_18, v17, v18, v19, v20, v21, v22, v23, v24, v25, v26, v27])), (e0, .inl (ec, 120, .inl ef))] := hD
  have hr_13 : r_13.toInt = va_6.toInt := hw
  have hP9 := hP.sub (ws' := [(h0, .inr (7, [v0, v1, v2, v3, v4, v5, v6, v7, v8, v9, .ref e0, .int ts, .int bg_14, .int en_15, .int so_16, .int va_17, .int iw_18, v17, v18, v19, v20, v21, v22, v23, v24, v25, v26, v27])), (e0, .inl (ec, 120, .inl ef))]) [0, 1] rfl
  have hD9 := hD.sub (ws' := [(h0, .inr (7, [v0, v1, v2, v3, v4, v5, v6, v7, v8, v9, .ref e0, .int ts, .int bg_14, .int en_15, .int so_16, .int va_17, .int iw_18, v17, v18, v19, v20, v21, v22, v23, v24, v25, v26, v27])), (e0, .inl (ec, 120, .inl ef))]) [0, 1] (by decide) rfl
  have hK9 := hK.sub (tys' := [(ec, .int)]) [0] rfl
  exact W.iret (v := r_13) hx hb hr (fun t ht hW => ⟨⟨r_13, (), rfl, trivial, bg_14, en_15, so_16, va_17, iw_18, hq_19, hq_20, hq_21, hq_22, (by first | omega | decide | (simp only [fa_lt, fa_le, fa_eq, and_true, true_and, and_false, false_and, not_true_eq_false, not_false_eq_true, li_0, li_1, li_2, li_3, li_4, li_5, li_6, li_7, li_8, li_9, li_10, li_12, li_15, li_16, li_20, li_30, li_34, li_38, li_40, li_63, li_64, li_65, li_78, li_120, li_1000, li_4000, li_10000, li_11077, li_255, li_65535, li_m1, li_m2, li_m1000000001, li_m1000000002, li_m1000000003, li_m1000000004, li_m1000000005, li_m1000000006, li_m1000000007, or_true, true_or, or_false, false_or, implies_true, true_implies, false_implies] <;> omega)), by rw [ht]; exact hP9, va_K.moved hW.alike hK9, hD9⟩, hS.F ht⟩) hS.2.2 dX9_after_15

def w_m_kindTold : List Cond := .code yX9_kindTold cX9_kindTold 3 (some .int) :: (([.fieldLink RX9 49 "LampShapesModel" "kinds" "[Ljava/lang/String;", .methodLink RX9 231 yX9_isWord, .instanceMethod yX9_isWord, .selects RX9 yX9_isWord yX9_isWord, .initialized RX9, .code yX9_isWord cX9_isWord 4 (some .boolean), .fieldLink RX9 203 "LampShapesModel" "sort" "I", .methodLink RX9 209 yJ0_length_8abf5, .instanceMethod yJ0_length_8abf5, .selects RJ0 yJ0_length_8abf5 yJ0_length_8abf5, .initialized RJ0, .code yJ0_length_8abf5 cJ0_length_8abf5 1 (some .int), .fieldLink RJ0 9 "java/lang/String" "value" "[B", .methodLink RJ0 335 yJ0_coder_7d493, .instanceMethod yJ0_coder_7d493, .selects RJ0 yJ0_coder_7d493 yJ0_coder_7d493, .code yJ0_coder_7d493 cJ0_coder_7d493 1 (some .byte), .fieldLink RJ0 38 "java/lang/String" "COMPACT_STRINGS" "Z", .fieldLink RJ0 15 "java/lang/String" "coder" "B", .fieldLink RX9 32 "LampShapesModel" "tape" "[I", .fieldLink RX9 194 "LampShapesModel" "begins" "I", .methodLink RX9 213 yJ0_charAt_5068e, .instanceMethod yJ0_charAt_5068e, .selects RJ0 yJ0_charAt_5068e yJ0_charAt_5068e, .code yJ0_charAt_5068e cJ0_charAt_5068e 2 (some .char), .methodLink RJ0 492 yJ0_isLatin1_aae02, .instanceMethod yJ0_isLatin1_aae02, .selects RJ0 yJ0_isLatin1_aae02 yJ0_isLatin1_aae02, .code yJ0_isLatin1_aae02 cJ0_isLatin1_aae02 1 (some .boolean), .methodLink RJ0 495 yJ1_charAt_3b067, .static yJ1_charAt_3b067, .initialized RJ1, .code yJ1_charAt_3b067 cJ1_charAt_3b067 2 (some .char), .methodLink RJ1 9 yJ0_checkIndex_df160, .static yJ0_checkIndex_df160, .code yJ0_checkIndex_df160 cJ0_checkIndex_df160 2 none, .fieldLink RJ0 1053 "jdk/internal/util/Preconditions" "SIOOBE_FORMATTER" "Ljava/util/function/BiFunction;", .methodLink RJ0 1059 yJ3_checkIndex_8e157, .static yJ3_checkIndex_8e157, .initialized RJ3, .code yJ3_checkIndex_8e157 cJ3_checkIndex_8e157 3 (some .int), .methodLink RJ0 498 yJ2_charAt_3b067, .static yJ2_charAt_3b067, .initialized RJ2, .code yJ2_charAt_3b067 cJ2_charAt_3b067 2 (some .char), .methodLink RJ2 67 yJ2_checkIndex_2214a, .static yJ2_checkIndex_2214a, .code yJ2_checkIndex_2214a cJ2_checkIndex_2214a 2 none, .methodLink RJ2 48 yJ2_length_9d52b, .static yJ2_length_9d52b, .code yJ2_length_9d52b cJ2_length_9d52b 1 (some .int), .methodLink RJ2 414 yJ0_checkIndex_df160, .methodLink RJ2 71 yJ2_getChar_3b067, .static yJ2_getChar_3b067, .code yJ2_getChar_3b067 cJ2_getChar_3b067 2 (some .char), .fieldLink RJ2 44 "java/lang/StringUTF16" "$assertionsDisabled" "Z", .fieldLink RJ2 59 "java/lang/StringUTF16" "HI_BYTE_SHIFT" "I", .fieldLink RJ2 63 "java/lang/StringUTF16" "LO_BYTE_SHIFT" "I", .fieldLink RX9 191 "LampShapesModel" "ends" "I"] : List Cond) ++ wsX90)
set_option maxRecDepth 20000 in
theorem g_m_kindTold_m_isWord_231 : GoodIn w_m_kindTold (wsV RX9 231 RX9 yX9_isWord w_m_isWord) := goodIn_r _ [2, 3, 4, 5, 6, 7, 8, 9, 10, 11, 12, 13, 14, 15, 16, 17, 18, 19, 20, 21, 22, 23, 24, 25, 26, 27, 28, 29, 30, 31, 32, 33, 34, 35, 36, 37, 38, 39, 40, 41, 42, 43, 44, 45, 46, 47, 48, 49, 50, 51, 52, 53, 54, 55, 56, 57, 58, 59, 60, 61, 62, 63, 64, 65, 66, 67, 68, 69, 70, 71, 72, 73, 74, 75, 76, 77, 78, 79, 80, 81, 82, 83, 84, 85, 86, 87] rfl (by decide +kernel)
set_option maxHeartbeats 4000000 in
set_option maxRecDepth 100000 in
theorem m_kindTold (l : Launch) (dC : Nat → ClassId) (dI : Nat → Nat → Nat) (ad : Nat → Nat) (h0 : Nat) (v0 : Value) (v1 : Value) (v2 : Value) (v3 : Value) (v4 : Value) (v5 : Value) (v6 : Value) (v7 : Value) (v8 : Value) (v9 : Value) (e0 : Nat) (ts : Int32) (bg : Int32) (en : Int32) (so : Int32) (va : Int32) (v16 : Value) (i0 : Nat) (v18 : Value) (v19 : Value) (v20 : Value) (v21 : Value) (v22 : Value) (v23 : Value) (v24 : Value) (v25 : Value) (v26 : Value) (v27 : Value) (ec : ClassId) (ef : Nat → Int32) (ic : ClassId) (jf : Nat → Option Nat) (htm : 0 ≤ ts.toInt ∧ ts.toInt ≤ 120) (hlx : 0 ≤ bg.toInt ∧ en.toInt ≤ ts.toInt ∧ bg.toInt ≤ en.toInt) (hjf : ∀ j, j < 6 → jf j = (some (ad (13 + j)))) : Met l yX9_kindTold w_m_kindTold ({ frames := 5, cells := 0, slots := 0, locals := 108 } : Room) (va_Pc [.ref h0] (preST dC dI ad [(ec, .int), (ic, .object "java/lang/String")] [(h0, .inr (7, [v0, v1, v2, v3, v4, v5, v6, v7, v8, v9, .ref e0, .int ts, .int bg, .int en, .int so, .int va, v16, .ref i0, v18, v19, v20, v21, v22, v23, v24, v25, v26, v27])), (e0, .inl (ec, 120, .inl ef)), (i0, .inl (ic, 6, .inr (.inr (.inr (.inr jf)))))])) (vp_Si (fun r => (-1) ≤ r.toInt ∧ r.toInt ≤ 5 ∧ (0 ≤ r.toInt → so.toInt = 1))) 0 0 (fun _ => False) := by
  refine Met.ofW (cc := cX9_kindTold) (maxL := 3) (ret := (some .int)) (by decide) rfl ?_
  intro p e s m args below meth c s₁ B hml hv
  obtain ⟨rfl, ⟨hP, hK, hev⟩, hsf⟩ := hv
  have hS : va_S (fun _ => False) s.heap s.heap [] := va_S.rf
  have hx := B.exec
  have hb := B.bytes
  have hr := B.returns
  have hts := atoms_spec (ws := w_m_kindTold) B.pre
  have hown : s.vm.findClass RX9 = some m.cls := findClass_of_methodNamed B.named
  have hlocks := B.notSynchronized
  have inX9 : ∀ w ∈ wsX90, w ∈ w_m_kindTold := fun w h => List.mem_cons_of_mem _ (List.mem_append_right _ h)
  have hP : va_P (dC, dI) vwCl [(h0, .inr (7, [v0, v1, v2, v3, v4, v5, v6, v7, v8, v9, .ref e0, .int ts, .int bg, .int en, .int so, .int va, v16, .ref i0, v18, v19, v20, v21, v22, v23, v24, v25, v26, v27])), (e0, .inl (ec, 120, .inl ef)), (i0, .inl (ic, 6, .inr (.inr (.inr (.inr jf)))))] s.heap := hP
  have hl := lv_entry ([.ref h0]) (n := 3) (Nat.le_of_ble_eq_true rfl)
  rw [lg_entry_eq]
  generalize (lg_sl ([.ref h0]) ++ List.replicate (3 - (lg_sl ([.ref h0])).length) Slot.unset).toArray = ls at hl ⊢
  have hl : lv_has ls 3 [(0, .ref h0)] := hl
  refine lv_iconst (v := (-1)) hx hb dX9_kindTold_0 (by decide) ?_
  refine lv_istore_n (lv' := [(1, .int (-1)), (0, .ref h0)]) hx hb dX9_kindTold_1 rfl hl (by decide) rfl (fun ls hl => ?_)
  refine lv_iconst (v := 0) hx hb dX9_kindTold_2 (by decide) ?_
  refine lv_istore_n (lv' := [(2, .int 0), (1, .int (-1)), (0, .ref h0)]) hx hb dX9_kindTold_3 rfl hl (by decide) rfl (fun ls hl => ?_)
  refine lv_iload_n hx hb dX9_kindTold_4 rfl (lv_at hl 0 rfl) ?_
  refine lv_aload_n hx hb dX9_kindTold_5 rfl (lv_at hl 2 rfl) ?_
  refine va_get (D := (dC, dI)) (ci := 7) (v := .ref i0) (C := RX9) (T := TX9) (N := 28) hx hb hts inX9 hown hK hP 0 rfl rfl 17 (by decide) (hts _ (List.mem_of_getElem? (i := 1) rfl)) (fun _ h9 => h9) rfl dX9_kindTold_6 ?_
  refine va_alen (v := 6) hx hb hK hP 2 1 rfl rfl rfl dX9_kindTold_9 ?_
  refine lv_icmp_ge (tgt := 38) hx hb dX9_kindTold_10 (by decide) (fun c => absurd c (by decide)) (fun _ => ?_)
  refine lv_aload_n hx hb dX9_kindTold_13 rfl (lv_at hl 2 rfl) ?_
  refine lv_aload_n hx hb dX9_kindTold_14 rfl (lv_at hl 2 rfl) ?_
  refine va_get (D := (dC, dI)) (ci := 7) (v := .ref i0) (C := RX9) (T := TX9) (N := 28) hx hb hts inX9 hown hK hP 0 rfl rfl 17 (by decide) (hts _ (List.mem_of_getElem? (i := 1) rfl)) (fun _ h9 => h9) rfl dX9_kindTold_15 ?_
  refine lv_iload_n hx hb dX9_kindTold_18 rfl (lv_at hl 0 rfl) ?_
  refine va_aldq hx hb hK hP 2 1 rfl rfl (vp_in_nI (n := 0) (by decide) (by decide)) dX9_kindTold_19 ?_
  refine pp_tv (y := .ref (ad 13)) (congrArg va_rf (hjf 0 (by decide))) ?_
  have hPc := hP.sub (ws' := [(h0, .inr (7, [v0, v1, v2, v3, v4, v5, v6, v7, v8, v9, .ref e0, .int ts, .int bg, .int en, .int so, .int va, v16, .ref i0, v18, v19, v20, v21, v22, v23, v24, v25, v26, v27])), (e0, .inl (ec, 120, .inl ef))]) [0, 1] rfl
  have hKc := hK.sub (tys' := [(ec, .int)]) [0] rfl
  refine vp_callSi (W.runV (As := [.ref (ad 13)]) (rest := []) ⟨hx, hb, hml, hown, hts⟩ (m_isWord l dC dI ad h0 13 v0 v1 v2 v3 v4 v5 v6 v7 v8 v9 e0 ts bg en so va v16 (.ref i0) v18 v19 v20 v21 v22 v23 v24 v25 v26 v27 ec ef (by decide) htm hlx) (cwV 1 hts g_m_kindTold_m_isWord_231 rfl rfl rfl (by decide +kernel) ⟨(Nat.le_of_ble_eq_true rfl), (Nat.le_of_ble_eq_true rfl)⟩) ⟨preST_blind, va_recv hKc hPc (ci := 7) (q0 := 0) rfl rfl, fun U hU hW => ⟨rfl, preS_at hU hW hPc hKc hev, sf_at hsf hS (fun _ h => h.elim) hU hW⟩⟩ rfl rfl hl.1 rfl (lv_room (Nat.le_of_ble_eq_true rfl)) dX9_kindTold_20 ⟨(Nat.le_of_ble_eq_true rfl), (Nat.le_of_ble_eq_true rfl)⟩) (fun r_1 hw => ?_)
  have hr_1 : r_1.toInt = 0 ∨ (r_1.toInt = 1 ∧ so.toInt = 1) := hw
  refine lv_if_eq (tgt := 30) hx hb dX9_kindTold_23 (by decide) (fun c_2 => ?_) (fun c_2 => ?_)
  · skip
    have tc_2 : r_1.toInt = 0 := (fa_eq _ _).mp c_2
    refine lv_iload_n hx hb dX9_kindTold_30 rfl (lv_at hl 1 rfl) ?_
    refine lv_istore_n (lv' := [(1, .int (-1)), (2, .int 0), (0, .ref h0)]) hx hb dX9_kindTold_31 rfl hl (by decide) rfl (fun ls hl => ?_)
    refine lv_iinc (v := 1) (lv' := [(2, .int 1), (1, .int (-1)), (0, .ref h0)]) hx hb dX9_kindTold_32 hl (k := 1) rfl (by decide) (by decide) rfl (fun ls hl => ?_)
    refine lv_goto (tgt := 4) hx hb dX9_kindTold_35 (by decide) ?_
    refine lv_iload_n hx hb dX9_kindTold_4 rfl (lv_at hl 0 rfl) ?_
    refine lv_aload_n hx hb dX9_kindTold_5 rfl (lv_at hl 2 rfl) ?_
    refine va_get (D := (dC, dI)) (ci := 7) (v := .ref i0) (C := RX9) (T := TX9) (N := 28) hx hb hts inX9 hown hK hP 0 rfl rfl 17 (by decide) (hts _ (List.mem_of_getElem? (i := 1) rfl)) (fun _ h9 => h9) rfl dX9_kindTold_6 ?_
    refine va_alen (v := 6) hx hb hK hP 2 1 rfl rfl rfl dX9_kindTold_9 ?_
    refine lv_icmp_ge (tgt := 38) hx hb dX9_kindTold_10 (by decide) (fun c => absurd c (by decide)) (fun _ => ?_)
    refine lv_aload_n hx hb dX9_kindTold_13 rfl (lv_at hl 2 rfl) ?_
    refine lv_aload_n hx hb dX9_kindTold_14 rfl (lv_at hl 2 rfl) ?_
    refine va_get (D := (dC, dI)) (ci := 7) (v := .ref i0) (C := RX9) (T := TX9) (N := 28) hx hb hts inX9 hown hK hP 0 rfl rfl 17 (by decide) (hts _ (List.mem_of_getElem? (i := 1) rfl)) (fun _ h9 => h9) rfl dX9_kindTold_15 ?_
    refine lv_iload_n hx hb dX9_kindTold_18 rfl (lv_at hl 0 rfl) ?_
    refine va_aldq hx hb hK hP 2 1 rfl rfl (vp_in_nI (n := 1) (by decide) (by decide)) dX9_kindTold_19 ?_
    refine pp_tv (y := .ref (ad 14)) (congrArg va_rf (hjf 1 (by decide))) ?_
    have hPc := hP.sub (ws' := [(h0, .inr (7, [v0, v1, v2, v3, v4, v5, v6, v7, v8, v9, .ref e0, .int ts, .int bg, .int en, .int so, .int va, v16, .ref i0, v18, v19, v20, v21, v22, v23, v24, v25, v26, v27])), (e0, .inl (ec, 120, .inl ef))]) [0, 1] rfl
    have hKc := hK.sub (tys' := [(ec, .int)]) [0] rfl
    refine vp_callSi (W.runV (As := [.ref (ad 14)]) (rest := []) ⟨hx, hb, hml, hown, hts⟩ (m_isWord l dC dI ad h0 14 v0 v1 v2 v3 v4 v5 v6 v7 v8 v9 e0 ts bg en so va v16 (.ref i0) v18 v19 v20 v21 v22 v23 v24 v25 v26 v27 ec ef (by decide) htm hlx) (cwV 1 hts g_m_kindTold_m_isWord_231 rfl rfl rfl (by decide +kernel) ⟨(Nat.le_of_ble_eq_true rfl), (Nat.le_of_ble_eq_true rfl)⟩) ⟨preST_blind, va_recv hKc hPc (ci := 7) (q0 := 0) rfl rfl, fun U hU hW => ⟨rfl, preS_at hU hW hPc hKc hev, sf_at hsf hS (fun _ h => h.elim) hU hW⟩⟩ rfl rfl hl.1 rfl (lv_room (Nat.le_of_ble_eq_true rfl)) dX9_kindTold_20 ⟨(Nat.le_of_ble_eq_true rfl), (Nat.le_of_ble_eq_true rfl)⟩) (fun r_3 hw => ?_)
    have hr_3 : r_3.toInt = 0 ∨ (r_3.toInt = 1 ∧ so.toInt = 1) := hw
    refine lv_if_eq (tgt := 30) hx hb dX9_kindTold_23 (by decide) (fun c_4 => ?_) (fun c_4 => ?_)
    · skip
      have tc_4 : r_3.toInt = 0 := (fa_eq _ _).mp c_4
      refine lv_iload_n hx hb dX9_kindTold_30 rfl (lv_at hl 1 rfl) ?_
      refine lv_istore_n (lv' := [(1, .int (-1)), (2, .int 1), (0, .ref h0)]) hx hb dX9_kindTold_31 rfl hl (by decide) rfl (fun ls hl => ?_)
      refine lv_iinc (v := 2) (lv' := [(2, .int 2), (1, .int (-1)), (0, .ref h0)]) hx hb dX9_kindTold_32 hl (k := 1) rfl (by decide) (by decide) rfl (fun ls hl => ?_)
      refine lv_goto (tgt := 4) hx hb dX9_kindTold_35 (by decide) ?_
      refine lv_iload_n hx hb dX9_kindTold_4 rfl (lv_at hl 0 rfl) ?_
      refine lv_aload_n hx hb dX9_kindTold_5 rfl (lv_at hl 2 rfl) ?_
      refine va_get (D := (dC, dI)) (ci := 7) (v := .ref i0) (C := RX9) (T := TX9) (N := 28) hx hb hts inX9 hown hK hP 0 rfl rfl 17 (by decide) (hts _ (List.mem_of_getElem? (i := 1) rfl)) (fun _ h9 => h9) rfl dX9_kindTold_6 ?_
      refine va_alen (v := 6) hx hb hK hP 2 1 rfl rfl rfl dX9_kindTold_9 ?_
      refine lv_icmp_ge (tgt := 38) hx hb dX9_kindTold_10 (by decide) (fun c => absurd c (by decide)) (fun _ => ?_)
      refine lv_aload_n hx hb dX9_kindTold_13 rfl (lv_at hl 2 rfl) ?_
      refine lv_aload_n hx hb dX9_kindTold_14 rfl (lv_at hl 2 rfl) ?_
      refine va_get (D := (dC, dI)) (ci := 7) (v := .ref i0) (C := RX9) (T := TX9) (N := 28) hx hb hts inX9 hown hK hP 0 rfl rfl 17 (by decide) (hts _ (List.mem_of_getElem? (i := 1) rfl)) (fun _ h9 => h9) rfl dX9_kindTold_15 ?_
      refine lv_iload_n hx hb dX9_kindTold_18 rfl (lv_at hl 0 rfl) ?_
      refine va_aldq hx hb hK hP 2 1 rfl rfl (vp_in_nI (n := 2) (by decide) (by decide)) dX9_kindTold_19 ?_
      refine pp_tv (y := .ref (ad 15)) (congrArg va_rf (hjf 2 (by decide))) ?_
      have hPc := hP.sub (ws' := [(h0, .inr (7, [v0, v1, v2, v3, v4, v5, v6, v7, v8, v9, .ref e0, .int ts, .int bg, .int en, .int so, .int va, v16, .ref i0, v18, v19, v20, v21, v22, v23, v24, v25, v26, v27])), (e0, .inl (ec, 120, .inl ef))]) [0, 1] rfl
      have hKc := hK.sub (tys' := [(ec, .int)]) [0] rfl
      refine vp_callSi (W.runV (As := [.ref (ad 15)]) (rest := []) ⟨hx, hb, hml, hown, hts⟩ (m_isWord l dC dI ad h0 15 v0 v1 v2 v3 v4 v5 v6 v7 v8 v9 e0 ts bg en so va v16 (.ref i0) v18 v19 v20 v21 v22 v23 v24 v25 v26 v27 ec ef (by decide) htm hlx) (cwV 1 hts g_m_kindTold_m_isWord_231 rfl rfl rfl (by decide +kernel) ⟨(Nat.le_of_ble_eq_true rfl), (Nat.le_of_ble_eq_true rfl)⟩) ⟨preST_blind, va_recv hKc hPc (ci := 7) (q0 := 0) rfl rfl, fun U hU hW => ⟨rfl, preS_at hU hW hPc hKc hev, sf_at hsf hS (fun _ h => h.elim) hU hW⟩⟩ rfl rfl hl.1 rfl (lv_room (Nat.le_of_ble_eq_true rfl)) dX9_kindTold_20 ⟨(Nat.le_of_ble_eq_true rfl), (Nat.le_of_ble_eq_true rfl)⟩) (fun r_5 hw => ?_)
      have hr_5 : r_5.toInt = 0 ∨ (r_5.toInt = 1 ∧ so.toInt = 1) := hw
      refine lv_if_eq (tgt := 30) hx hb dX9_kindTold_23 (by decide) (fun c_6 => ?_) (fun c_6 => ?_)
      · skip
        have tc_6 : r_5.toInt = 0 := (fa_eq _ _).mp c_6
        refine lv_iload_n hx hb dX9_kindTold_30 rfl (lv_at hl 1 rfl) ?_
        refine lv_istore_n (lv' := [(1, .int (-1)), (2, .int 2), (0, .ref h0)]) hx hb dX9_kindTold_31 rfl hl (by decide) rfl (fun ls hl => ?_)
        refine lv_iinc (v := 3) (lv' := [(2, .int 3), (1, .int (-1)), (0, .ref h0)]) hx hb dX9_kindTold_32 hl (k := 1) rfl (by decide) (by decide) rfl (fun ls hl => ?_)
        refine lv_goto (tgt := 4) hx hb dX9_kindTold_35 (by decide) ?_
        refine lv_iload_n hx hb dX9_kindTold_4 rfl (lv_at hl 0 rfl) ?_
        refine lv_aload_n hx hb dX9_kindTold_5 rfl (lv_at hl 2 rfl) ?_
        refine va_get (D := (dC, dI)) (ci := 7) (v := .ref i0) (C := RX9) (T := TX9) (N := 28) hx hb hts inX9 hown hK hP 0 rfl rfl 17 (by decide) (hts _ (List.mem_of_getElem? (i := 1) rfl)) (fun _ h9 => h9) rfl dX9_kindTold_6 ?_
        refine va_alen (v := 6) hx hb hK hP 2 1 rfl rfl rfl dX9_kindTold_9 ?_
        refine lv_icmp_ge (tgt := 38) hx hb dX9_kindTold_10 (by decide) (fun c => absurd c (by decide)) (fun _ => ?_)
        refine lv_aload_n hx hb dX9_kindTold_13 rfl (lv_at hl 2 rfl) ?_
        refine lv_aload_n hx hb dX9_kindTold_14 rfl (lv_at hl 2 rfl) ?_
        refine va_get (D := (dC, dI)) (ci := 7) (v := .ref i0) (C := RX9) (T := TX9) (N := 28) hx hb hts inX9 hown hK hP 0 rfl rfl 17 (by decide) (hts _ (List.mem_of_getElem? (i := 1) rfl)) (fun _ h9 => h9) rfl dX9_kindTold_15 ?_
        refine lv_iload_n hx hb dX9_kindTold_18 rfl (lv_at hl 0 rfl) ?_
        refine va_aldq hx hb hK hP 2 1 rfl rfl (vp_in_nI (n := 3) (by decide) (by decide)) dX9_kindTold_19 ?_
        refine pp_tv (y := .ref (ad 16)) (congrArg va_rf (hjf 3 (by decide))) ?_
        have hPc := hP.sub (ws' := [(h0, .inr (7, [v0, v1, v2, v3, v4, v5, v6, v7, v8, v9, .ref e0, .int ts, .int bg, .int en, .int so, .int va, v16, .ref i0, v18, v19, v20, v21, v22, v23, v24, v25, v26, v27])), (e0, .inl (ec, 120, .inl ef))]) [0, 1] rfl
        have hKc := hK.sub (tys' := [(ec, .int)]) [0] rfl
        refine vp_callSi (W.runV (As := [.ref (ad 16)]) (rest := []) ⟨hx, hb, hml, hown, hts⟩ (m_isWord l dC dI ad h0 16 v0 v1 v2 v3 v4 v5 v6 v7 v8 v9 e0 ts bg en so va v16 (.ref i0) v18 v19 v20 v21 v22 v23 v24 v25 v26 v27 ec ef (by decide) htm hlx) (cwV 1 hts g_m_kindTold_m_isWord_231 rfl rfl rfl (by decide +kernel) ⟨(Nat.le_of_ble_eq_true rfl), (Nat.le_of_ble_eq_true rfl)⟩) ⟨preST_blind, va_recv hKc hPc (ci := 7) (q0 := 0) rfl rfl, fun U hU hW => ⟨rfl, preS_at hU hW hPc hKc hev, sf_at hsf hS (fun _ h => h.elim) hU hW⟩⟩ rfl rfl hl.1 rfl (lv_room (Nat.le_of_ble_eq_true rfl)) dX9_kindTold_20 ⟨(Nat.le_of_ble_eq_true rfl), (Nat.le_of_ble_eq_true rfl)⟩) (fun r_7 hw => ?_)
        have hr_7 : r_7.toInt = 0 ∨ (r_7.toInt = 1 ∧ so.toInt = 1) := hw
        refine lv_if_eq (tgt := 30) hx hb dX9_kindTold_23 (by decide) (fun c_8 => ?_) (fun c_8 => ?_)
        · skip
          have tc_8 : r_7.toInt = 0 := (fa_eq _ _).mp c_8
          refine lv_iload_n hx hb dX9_kindTold_30 rfl (lv_at hl 1 rfl) ?_
          refine lv_istore_n (lv' := [(1, .int (-1)), (2, .int 3), (0, .ref h0)]) hx hb dX9_kindTold_31 rfl hl (by decide) rfl (fun ls hl => ?_)
          refine lv_iinc (v := 4) (lv' := [(2, .int 4), (1, .int (-1)), (0, .ref h0)]) hx hb dX9_kindTold_32 hl (k := 1) rfl (by decide) (by decide) rfl (fun ls hl => ?_)
          refine lv_goto (tgt := 4) hx hb dX9_kindTold_35 (by decide) ?_
          refine lv_iload_n hx hb dX9_kindTold_4 rfl (lv_at hl 0 rfl) ?_
          refine lv_aload_n hx hb dX9_kindTold_5 rfl (lv_at hl 2 rfl) ?_
          refine va_get (D := (dC, dI)) (ci := 7) (v := .ref i0) (C := RX9) (T := TX9) (N := 28) hx hb hts inX9 hown hK hP 0 rfl rfl 17 (by decide) (hts _ (List.mem_of_getElem? (i := 1) rfl)) (fun _ h9 => h9) rfl dX9_kindTold_6 ?_
          refine va_alen (v := 6) hx hb hK hP 2 1 rfl rfl rfl dX9_kindTold_9 ?_
          refine lv_icmp_ge (tgt := 38) hx hb dX9_kindTold_10 (by decide) (fun c => absurd c (by decide)) (fun _ => ?_)
          refine lv_aload_n hx hb dX9_kindTold_13 rfl (lv_at hl 2 rfl) ?_
          refine lv_aload_n hx hb dX9_kindTold_14 rfl (lv_at hl 2 rfl) ?_
          refine va_get (D := (dC, dI)) (ci := 7) (v := .ref i0) (C := RX9) (T := TX9) (N := 28) hx hb hts inX9 hown hK hP 0 rfl rfl 17 (by decide) (hts _ (List.mem_of_getElem? (i := 1) rfl)) (fun _ h9 => h9) rfl dX9_kindTold_15 ?_
          refine lv_iload_n hx hb dX9_kindTold_18 rfl (lv_at hl 0 rfl) ?_
          refine va_aldq hx hb hK hP 2 1 rfl rfl (vp_in_nI (n := 4) (by decide) (by decide)) dX9_kindTold_19 ?_
          refine pp_tv (y := .ref (ad 17)) (congrArg va_rf (hjf 4 (by decide))) ?_
          have hPc := hP.sub (ws' := [(h0, .inr (7, [v0, v1, v2, v3, v4, v5, v6, v7, v8, v9, .ref e0, .int ts, .int bg, .int en, .int so, .int va, v16, .ref i0, v18, v19, v20, v21, v22, v23, v24, v25, v26, v27])), (e0, .inl (ec, 120, .inl ef))]) [0, 1] rfl
          have hKc := hK.sub (tys' := [(ec, .int)]) [0] rfl
          refine vp_callSi (W.runV (As := [.ref (ad 17)]) (rest := []) ⟨hx, hb, hml, hown, hts⟩ (m_isWord l dC dI ad h0 17 v0 v1 v2 v3 v4 v5 v6 v7 v8 v9 e0 ts bg en so va v16 (.ref i0) v18 v19 v20 v21 v22 v23 v24 v25 v26 v27 ec ef (by decide) htm hlx) (cwV 1 hts g_m_kindTold_m_isWord_231 rfl rfl rfl (by decide +kernel) ⟨(Nat.le_of_ble_eq_true rfl), (Nat.le_of_ble_eq_true rfl)⟩) ⟨preST_blind, va_recv hKc hPc (ci := 7) (q0 := 0) rfl rfl, fun U hU hW => ⟨rfl, preS_at hU hW hPc hKc hev, sf_at hsf hS (fun _ h => h.elim) hU hW⟩⟩ rfl rfl hl.1 rfl (lv_room (Nat.le_of_ble_eq_true rfl)) dX9_kindTold_20 ⟨(Nat.le_of_ble_eq_true rfl), (Nat.le_of_ble_eq_true rfl)⟩) (fun r_9 hw => ?_)
          have hr_9 : r_9.toInt = 0 ∨ (r_9.toInt = 1 ∧ so.toInt = 1) := hw
          refine lv_if_eq (tgt := 30) hx hb dX9_kindTold_23 (by decide) (fun c_10 => ?_) (fun c_10 => ?_)
          · skip
            have tc_10 : r_9.toInt = 0 := (fa_eq _ _).mp c_10
            refine lv_iload_n hx hb dX9_kindTold_30 rfl (lv_at hl 1 rfl) ?_
            refine lv_istore_n (lv' := [(1, .int (-1)), (2, .int 4), (0, .ref h0)]) hx hb dX9_kindTold_31 rfl hl (by decide) rfl (fun ls hl => ?_)
            refine lv_iinc (v := 5) (lv' := [(2, .int 5), (1, .int (-1)), (0, .ref h0)]) hx hb dX9_kindTold_32 hl (k := 1) rfl (by decide) (by decide) rfl (fun ls hl => ?_)
            refine lv_goto (tgt := 4) hx hb dX9_kindTold_35 (by decide) ?_
            refine lv_iload_n hx hb dX9_kindTold_4 rfl (lv_at hl 0 rfl) ?_
            refine lv_aload_n hx hb dX9_kindTold_5 rfl (lv_at hl 2 rfl) ?_
            refine va_get (D := (dC, dI)) (ci := 7) (v := .ref i0) (C := RX9) (T := TX9) (N := 28) hx hb hts inX9 hown hK hP 0 rfl rfl 17 (by decide) (hts _ (List.mem_of_getElem? (i := 1) rfl)) (fun _ h9 => h9) rfl dX9_kindTold_6 ?_
            refine va_alen (v := 6) hx hb hK hP 2 1 rfl rfl rfl dX9_kindTold_9 ?_
            refine lv_icmp_ge (tgt := 38) hx hb dX9_kindTold_10 (by decide) (fun c => absurd c (by decide)) (fun _ => ?_)
            refine lv_aload_n hx hb dX9_kindTold_13 rfl (lv_at hl 2 rfl) ?_
            refine lv_aload_n hx hb dX9_kindTold_14 rfl (lv_at hl 2 rfl) ?_
            refine va_get (D := (dC, dI)) (ci := 7) (v := .ref i0) (C := RX9) (T := TX9) (N := 28) hx hb hts inX9 hown hK hP 0 rfl rfl 17 (by decide) (hts _ (List.mem_of_getElem? (i := 1) rfl)) (fun _ h9 => h9) rfl dX9_kindTold_15 ?_
            refine lv_iload_n hx hb dX9_kindTold_18 rfl (lv_at hl 0 rfl) ?_
            refine va_aldq hx hb hK hP 2 1 rfl rfl (vp_in_nI (n := 5) (by decide) (by decide)) dX9_kindTold_19 ?_
            refine pp_tv (y := .ref (ad 18)) (congrArg va_rf (hjf 5 (by decide))) ?_
            have hPc := hP.sub (ws' := [(h0, .inr (7, [v0, v1, v2, v3, v4, v5, v6, v7, v8, v9, .ref e0, .int ts, .int bg, .int en, .int so, .int va, v16, .ref i0, v18, v19, v20, v21, v22, v23, v24, v25, v26, v27])), (e0, .inl (ec, 120, .inl ef))]) [0, 1] rfl
            have hKc := hK.sub (tys' := [(ec, .int)]) [0] rfl
            refine vp_callSi (W.runV (As := [.ref (ad 18)]) (rest := []) ⟨hx, hb, hml, hown, hts⟩ (m_isWord l dC dI ad h0 18 v0 v1 v2 v3 v4 v5 v6 v7 v8 v9 e0 ts bg en so va v16 (.ref i0) v18 v19 v20 v21 v22 v23 v24 v25 v26 v27 ec ef (by decide) htm hlx) (cwV 1 hts g_m_kindTold_m_isWord_231 rfl rfl rfl (by decide +kernel) ⟨(Nat.le_of_ble_eq_true rfl), (Nat.le_of_ble_eq_true rfl)⟩) ⟨preST_blind, va_recv hKc hPc (ci := 7) (q0 := 0) rfl rfl, fun U hU hW => ⟨rfl, preS_at hU hW hPc hKc hev, sf_at hsf hS (fun _ h => h.elim) hU hW⟩⟩ rfl rfl hl.1 rfl (lv_room (Nat.le_of_ble_eq_true rfl)) dX9_kindTold_20 ⟨(Nat.le_of_ble_eq_true rfl), (Nat.le_of_ble_eq_true rfl)⟩) (fun r_11 hw => ?_)
            have hr_11 : r_11.toInt = 0 ∨ (r_11.toInt = 1 ∧ so.toInt = 1) := hw
            refine lv_if_eq (tgt := 30) hx hb dX9_kindTold_23 (by decide) (fun c_12 => ?_) (fun c_12 => ?_)
            · skip
              have tc_12 : r_11.toInt = 0 := (fa_eq _ _).mp c_12
              refine lv_iload_n hx hb dX9_kindTold_30 rfl (lv_at hl 1 rfl) ?_
              refine lv_istore_n (lv' := [(1, .int (-1)), (2, .int 5), (0, .ref h0)]) hx hb dX9_kindTold_31 rfl hl (by decide) rfl (fun ls hl => ?_)
              refine lv_iinc (v := 6) (lv' := [(2, .int 6), (1, .int (-1)), (0, .ref h0)]) hx hb dX9_kindTold_32 hl (k := 1) rfl (by decide) (by decide) rfl (fun ls hl => ?_)
              refine lv_goto (tgt := 4) hx hb dX9_kindTold_35 (by decide) ?_
              refine lv_iload_n hx hb dX9_kindTold_4 rfl (lv_at hl 0 rfl) ?_
              refine lv_aload_n hx hb dX9_kindTold_5 rfl (lv_at hl 2 rfl) ?_
              refine va_get (D := (dC, dI)) (ci := 7) (v := .ref i0) (C := RX9) (T := TX9) (N := 28) hx hb hts inX9 hown hK hP 0 rfl rfl 17 (by decide) (hts _ (List.mem_of_getElem? (i := 1) rfl)) (fun _ h9 => h9) rfl dX9_kindTold_6 ?_
              refine va_alen (v := 6) hx hb hK hP 2 1 rfl rfl rfl dX9_kindTold_9 ?_
              refine lv_icmp_ge (tgt := 38) hx hb dX9_kindTold_10 (by decide) (fun _ => ?_) (fun c => absurd (by decide) c)
              refine lv_iload_n hx hb dX9_kindTold_38 rfl (lv_at hl 1 rfl) ?_
              exact W.iret (v := ((-1) : Int32)) hx hb hr (fun t ht hW => ⟨((-1) : Int32), rfl, (by first | omega | decide | (simp only [fa_lt, fa_le, fa_eq, and_true, true_and, and_false, false_and, not_true_eq_false, not_false_eq_true, li_0, li_1, li_2, li_3, li_4, li_5, li_6, li_7, li_8, li_9, li_10, li_12, li_15, li_16, li_20, li_30, li_34, li_38, li_40, li_63, li_64, li_65, li_78, li_120, li_1000, li_4000, li_10000, li_11077, li_255, li_65535, li_m1, li_m2, li_m1000000001, li_m1000000002, li_m1000000003, li_m1000000004, li_m1000000005, li_m1000000006, li_m1000000007, or_true, true_or, or_false, false_or, implies_true, true_implies, false_implies] <;> omega)), ht⟩) (fun _ h => absurd h List.not_mem_nil) dX9_kindTold_39
            · skip
              have tc_12 : ¬ r_11.toInt = 0 := fun h => c_12 ((fa_eq _ _).mpr h)
              refine lv_iload_n hx hb dX9_kindTold_26 rfl (lv_at hl 0 rfl) ?_
              refine lv_goto (tgt := 31) hx hb dX9_kindTold_27 (by decide) ?_
              refine lv_istore_n (lv' := [(1, .int 5), (2, .int 5), (0, .ref h0)]) hx hb dX9_kindTold_31 rfl hl (by decide) rfl (fun ls hl => ?_)
              refine lv_iinc (v := 6) (lv' := [(2, .int 6), (1, .int 5), (0, .ref h0)]) hx hb dX9_kindTold_32 hl (k := 1) rfl (by decide) (by decide) rfl (fun ls hl => ?_)
              refine lv_goto (tgt := 4) hx hb dX9_kindTold_35 (by decide) ?_
              refine lv_iload_n hx hb dX9_kindTold_4 rfl (lv_at hl 0 rfl) ?_
              refine lv_aload_n hx hb dX9_kindTold_5 rfl (lv_at hl 2 rfl) ?_
              refine va_get (D := (dC, dI)) (ci := 7) (v := .ref i0) (C := RX9) (T := TX9) (N := 28) hx hb hts inX9 hown hK hP 0 rfl rfl 17 (by decide) (hts _ (List.mem_of_getElem? (i := 1) rfl)) (fun _ h9 => h9) rfl dX9_kindTold_6 ?_
              refine va_alen (v := 6) hx hb hK hP 2 1 rfl rfl rfl dX9_kindTold_9 ?_
              refine lv_icmp_ge (tgt := 38) hx hb dX9_kindTold_10 (by decide) (fun _ => ?_) (fun c => absurd (by decide) c)
              refine lv_iload_n hx hb dX9_kindTold_38 rfl (lv_at hl 1 rfl) ?_
              exact W.iret (v := (5 : Int32)) hx hb hr (fun t ht hW => ⟨(5 : Int32), rfl, (by first | omega | decide | (simp only [fa_lt, fa_le, fa_eq, and_true, true_and, and_false, false_and, not_true_eq_false, not_false_eq_true, li_0, li_1, li_2, li_3, li_4, li_5, li_6, li_7, li_8, li_9, li_10, li_12, li_15, li_16, li_20, li_30, li_34, li_38, li_40, li_63, li_64, li_65, li_78, li_120, li_1000, li_4000, li_10000, li_11077, li_255, li_65535, li_m1, li_m2, li_m1000000001, li_m1000000002, li_m1000000003, li_m1000000004, li_m1000000005, li_m1000000006, li_m1000000007, or_true, true_or, or_false, false_or, implies_true, true_implies, false_implies] <;> omega)), ht⟩) (fun _ h => absurd h List.not_mem_nil) dX9_kindTold_39
          · skip
            have tc_10 : ¬ r_9.toInt = 0 := fun h => c_10 ((fa_eq _ _).mpr h)
            refine lv_iload_n hx hb dX9_kindTold_26 rfl (lv_at hl 0 rfl) ?_
            refine lv_goto (tgt := 31) hx hb dX9_kindTold_27 (by decide) ?_
            refine lv_istore_n (lv' := [(1, .int 4), (2, .int 4), (0, .ref h0)]) hx hb dX9_kindTold_31 rfl hl (by decide) rfl (fun ls hl => ?_)
            refine lv_iinc (v := 5) (lv' := [(2, .int 5), (1, .int 4), (0, .ref h0)]) hx hb dX9_kindTold_32 hl (k := 1) rfl (by decide) (by decide) rfl (fun ls hl => ?_)
            refine lv_goto (tgt := 4) hx hb dX9_kindTold_35 (by decide) ?_
            refine lv_iload_n hx hb dX9_kindTold_4 rfl (lv_at hl 0 rfl) ?_
            refine lv_aload_n hx hb dX9_kindTold_5 rfl (lv_at hl 2 rfl) ?_
            refine va_get (D := (dC, dI)) (ci := 7) (v := .ref i0) (C := RX9) (T := TX9) (N := 28) hx hb hts inX9 hown hK hP 0 rfl rfl 17 (by decide) (hts _ (List.mem_of_getElem? (i := 1) rfl)) (fun _ h9 => h9) rfl dX9_kindTold_6 ?_
            refine va_alen (v := 6) hx hb hK hP 2 1 rfl rfl rfl dX9_kindTold_9 ?_
            refine lv_icmp_ge (tgt := 38) hx hb dX9_kindTold_10 (by decide) (fun c => absurd c (by decide)) (fun _ => ?_)
            refine lv_aload_n hx hb dX9_kindTold_13 rfl (lv_at hl 2 rfl) ?_
            refine lv_aload_n hx hb dX9_kindTold_14 rfl (lv_at hl 2 rfl) ?_
            refine va_get (D := (dC, dI)) (ci := 7) (v := .ref i0) (C := RX9) (T := TX9) (N := 28) hx hb hts inX9 hown hK hP 0 rfl rfl 17 (by decide) (hts _ (List.mem_of_getElem? (i := 1) rfl)) (fun _ h9 => h9) rfl dX9_kindTold_15 ?_
            refine lv_iload_n hx hb dX9_kindTold_18 rfl (lv_at hl 0 rfl) ?_
            refine va_aldq hx hb hK hP 2 1 rfl rfl (vp_in_nI (n := 5) (by decide) (by decide)) dX9_kindTold_19 ?_
            refine pp_tv (y := .ref (ad 18)) (congrArg va_rf (hjf 5 (by decide))) ?_
            have hPc := hP.sub (ws' := [(h0, .inr (7, [v0, v1, v2, v3, v4, v5, v6, v7, v8, v9, .ref e0, .int ts, .int bg, .int en, .int so, .int va, v16, .ref i0, v18, v19, v20, v21, v22, v23, v24, v25, v26, v27])), (e0, .inl (ec, 120, .inl ef))]) [0, 1] rfl
            have hKc := hK.sub (tys' := [(ec, .int)]) [0] rfl
            refine vp_callSi (W.runV (As := [.ref (ad 18)]) (rest := []) ⟨hx, hb, hml, hown, hts⟩ (m_isWord l dC dI ad h0 18 v0 v1 v2 v3 v4 v5 v6 v7 v8 v9 e0 ts bg en so va v16 (.ref i0) v18 v19 v20 v21 v22 v23 v24 v25 v26 v27 ec ef (by decide) htm hlx) (cwV 1 hts g_m_kindTold_m_isWord_231 rfl rfl rfl (by decide +kernel) ⟨(Nat.le_of_ble_eq_true rfl), (Nat.le_of_ble_eq_true rfl)⟩) ⟨preST_blind, va_recv hKc hPc (ci := 7) (q0 := 0) rfl rfl, fun U hU hW => ⟨rfl, preS_at hU hW hPc hKc hev, sf_at hsf hS (fun _ h => h.elim) hU hW⟩⟩ rfl rfl hl.1 rfl (lv_room (Nat.le_of_ble_eq_true rfl)) dX9_kindTold_20 ⟨(Nat.le_of_ble_eq_true rfl), (Nat.le_of_ble_eq_true rfl)⟩) (fun r_13 hw => ?_)
            have hr_13 : r_13.toInt = 0 ∨ (r_13.toInt = 1 ∧ so.toInt = 1) := hw
            refine lv_if_eq (tgt := 30) hx hb dX9_kindTold_23 (by decide) (fun c_14 => ?_) (fun c_14 => ?_)
            · skip
              have tc_14 : r_13.toInt = 0 := (fa_eq _ _).mp c_14
              refine lv_iload_n hx hb dX9_kindTold_30 rfl (lv_at hl 1 rfl) ?_
              refine lv_istore_n (lv' := [(1, .int 4), (2, .int 5), (0, .ref h0)]) hx hb dX9_kindTold_31 rfl hl (by decide) rfl (fun ls hl => ?_)
              refine lv_iinc (v := 6) (lv' := [(2, .int 6), (1, .int 4), (0, .ref h0)]) hx hb dX9_kindTold_32 hl (k := 1) rfl (by decide) (by decide) rfl (fun ls hl => ?_)
              refine lv_goto (tgt := 4) hx hb dX9_kindTold_35 (by decide) ?_
              refine lv_iload_n hx hb dX9_kindTold_4 rfl (lv_at hl 0 rfl) ?_
              refine lv_aload_n hx hb dX9_kindTold_5 rfl (lv_at hl 2 rfl) ?_
              refine va_get (D := (dC, dI)) (ci := 7) (v := .ref i0) (C := RX9) (T := TX9) (N := 28) hx hb hts inX9 hown hK hP 0 rfl rfl 17 (by decide) (hts _ (List.mem_of_getElem? (i := 1) rfl)) (fun _ h9 => h9) rfl dX9_kindTold_6 ?_
              refine va_alen (v := 6) hx hb hK hP 2 1 rfl rfl rfl dX9_kindTold_9 ?_
              refine lv_icmp_ge (tgt := 38) hx hb dX9_kindTold_10 (by decide) (fun _ => ?_) (fun c => absurd (by decide) c)
              refine lv_iload_n hx hb dX9_kindTold_38 rfl (lv_at hl 1 rfl) ?_
              exact W.iret (v := (4 : Int32)) hx hb hr (fun t ht hW => ⟨(4 : Int32), rfl, (by first | omega | decide | (simp only [fa_lt, fa_le, fa_eq, and_true, true_and, and_false, false_and, not_true_eq_false, not_false_eq_true, li_0, li_1, li_2, li_3, li_4, li_5, li_6, li_7, li_8, li_9, li_10, li_12, li_15, li_16, li_20, li_30, li_34, li_38, li_40, li_63, li_64, li_65, li_78, li_120, li_1000, li_4000, li_10000, li_11077, li_255, li_65535, li_m1, li_m2, li_m1000000001, li_m1000000002, li_m1000000003, li_m1000000004, li_m1000000005, li_m1000000006, li_m1000000007, or_true, true_or, or_false, false_or, implies_true, true_implies, false_implies] <;> omega)), ht⟩) (fun _ h => absurd h List.not_mem_nil) dX9_kindTold_39
            · skip
              have tc_14 : ¬ r_13.toInt = 0 := fun h => c_14 ((fa_eq _ _).mpr h)
              refine lv_iload_n hx hb dX9_kindTold_26 rfl (lv_at hl 0 rfl) ?_
              refine lv_goto (tgt := 31) hx hb dX9_kindTold_27 (by decide) ?_
              refine lv_istore_n (lv' := [(1, .int 5), (2, .int 5), (0, .ref h0)]) hx hb dX9_kindTold_31 rfl hl (by decide) rfl (fun ls hl => ?_)
              refine lv_iinc (v := 6) (lv' := [(2, .int 6), (1, .int 5), (0, .ref h0)]) hx hb dX9_kindTold_32 hl (k := 1) rfl (by decide) (by decide) rfl (fun ls hl => ?_)
              refine lv_goto (tgt := 4) hx hb dX9_kindTold_35 (by decide) ?_
              refine lv_iload_n hx hb dX9_kindTold_4 rfl (lv_at hl 0 rfl) ?_
              refine lv_aload_n hx hb dX9_kindTold_5 rfl (lv_at hl 2 rfl) ?_
              refine va_get (D := (dC, dI)) (ci := 7) (v := .ref i0) (C := RX9) (T := TX9) (N := 28) hx hb hts inX9 hown hK hP 0 rfl rfl 17 (by decide) (hts _ (List.mem_of_getElem? (i := 1) rfl)) (fun _ h9 => h9) rfl dX9_kindTold_6 ?_
              refine va_alen (v := 6) hx hb hK hP 2 1 rfl rfl rfl dX9_kindTold_9 ?_
              refine lv_icmp_ge (tgt := 38) hx hb dX9_kindTold_10 (by decide) (fun _ => ?_) (fun c => absurd (by decide) c)
              refine lv_iload_n hx hb dX9_kindTold_38 rfl (lv_at hl 1 rfl) ?_
              exact W.iret (v := (5 : Int32)) hx hb hr (fun t ht hW => ⟨(5 : Int32), rfl, (by first | omega | decide | (simp only [fa_lt, fa_le, fa_eq, and_true, true_and, and_false, false_and, not_true_eq_false, not_false_eq_true, li_0, li_1, li_2, li_3, li_4, li_5, li_6, li_7, li_8, li_9, li_10, li_12, li_15, li_16, li_20, li_30, li_34, li_38, li_40, li_63, li_64, li_65, li_78, li_120, li_1000, li_4000, li_10000, li_11077, li_255, li_65535, li_m1, li_m2, li_m1000000001, li_m1000000002, li_m1000000003, li_m1000000004, li_m1000000005, li_m1000000006, li_m1000000007, or_true, true_or, or_false, false_or, implies_true, true_implies, false_implies] <;> omega)), ht⟩) (fun _ h => absurd h List.not_mem_nil) dX9_kindTold_39
        · skip
          have tc_8 : ¬ r_7.toInt = 0 := fun h => c_8 ((fa_eq _ _).mpr h)
          refine lv_iload_n hx hb dX9_kindTold_26 rfl (lv_at hl 0 rfl) ?_
          refine lv_goto (tgt := 31) hx hb dX9_kindTold_27 (by decide) ?_
          refine lv_istore_n (lv' := [(1, .int 3), (2, .int 3), (0, .ref h0)]) hx hb dX9_kindTold_31 rfl hl (by decide) rfl (fun ls hl => ?_)
          refine lv_iinc (v := 4) (lv' := [(2, .int 4), (1, .int 3), (0, .ref h0)]) hx hb dX9_kindTold_32 hl (k := 1) rfl (by decide) (by decide) rfl (fun ls hl => ?_)
          refine lv_goto (tgt := 4) hx hb dX9_kindTold_35 (by decide) ?_
          refine lv_iload_n hx hb dX9_kindTold_4 rfl (lv_at hl 0 rfl) ?_
          refine lv_aload_n hx hb dX9_kindTold_5 rfl (lv_at hl 2 rfl) ?_
          refine va_get (D := (dC, dI)) (ci := 7) (v := .ref i0) (C := RX9) (T := TX9) (N := 28) hx hb hts inX9 hown hK hP 0 rfl rfl 17 (by decide) (hts _ (List.mem_of_getElem? (i := 1) rfl)) (fun _ h9 => h9) rfl dX9_kindTold_6 ?_
          refine va_alen (v := 6) hx hb hK hP 2 1 rfl rfl rfl dX9_kindTold_9 ?_
          refine lv_icmp_ge (tgt := 38) hx hb dX9_kindTold_10 (by decide) (fun c => absurd c (by decide)) (fun _ => ?_)
          refine lv_aload_n hx hb dX9_kindTold_13 rfl (lv_at hl 2 rfl) ?_
          refine lv_aload_n hx hb dX9_kindTold_14 rfl (lv_at hl 2 rfl) ?_
          refine va_get (D := (dC, dI)) (ci := 7) (v := .ref i0) (C := RX9) (T := TX9) (N := 28) hx hb hts inX9 hown hK hP 0 rfl rfl 17 (by decide) (hts _ (List.mem_of_getElem? (i := 1) rfl)) (fun _ h9 => h9) rfl dX9_kindTold_15 ?_
          refine lv_iload_n hx hb dX9_kindTold_18 rfl (lv_at hl 0 rfl) ?_
          refine va_aldq hx hb hK hP 2 1 rfl rfl (vp_in_nI (n := 4) (by decide) (by decide)) dX9_kindTold_19 ?_
          refine pp_tv (y := .ref (ad 17)) (congrArg va_rf (hjf 4 (by decide))) ?_
          have hPc := hP.sub (ws' := [(h0, .inr (7, [v0, v1, v2, v3, v4, v5, v6, v7, v8, v9, .ref e0, .int ts, .int bg, .int en, .int so, .int va, v16, .ref i0, v18, v19, v20, v21, v22, v23, v24, v25, v26, v27])), (e0, .inl (ec, 120, .inl ef))]) [0, 1] rfl
          have hKc := hK.sub (tys' := [(ec, .int)]) [0] rfl
          refine vp_callSi (W.runV (As := [.ref (ad 17)]) (rest := []) ⟨hx, hb, hml, hown, hts⟩ (m_isWord l dC dI ad h0 17 v0 v1 v2 v3 v4 v5 v6 v7 v8 v9 e0 ts bg en so va v16 (.ref i0) v18 v19 v20 v21 v22 v23 v24 v25 v26 v27 ec ef (by decide) htm hlx) (cwV 1 hts g_m_kindTold_m_isWord_231 rfl rfl rfl (by decide +kernel) ⟨(Nat.le_of_ble_eq_true rfl), (Nat.le_of_ble_eq_true rfl)⟩) ⟨preST_blind, va_recv hKc hPc (ci := 7) (q0 := 0) rfl rfl, fun U hU hW => ⟨rfl, preS_at hU hW hPc hKc hev, sf_at hsf hS (fun _ h => h.elim) hU hW⟩⟩ rfl rfl hl.1 rfl (lv_room (Nat.le_of_ble_eq_true rfl)) dX9_kindTold_20 ⟨(Nat.le_of_ble_eq_true rfl), (Nat.le_of_ble_eq_true rfl)⟩) (fun r_15 hw => ?_)
          have hr_15 : r_15.toInt = 0 ∨ (r_15.toInt = 1 ∧ so.toInt = 1) := hw
          refine lv_if_eq (tgt := 30) hx hb dX9_kindTold_23 (by decide) (fun c_16 => ?_) (fun c_16 => ?_)
          · skip
            have tc_16 : r_15.toInt = 0 := (fa_eq _ _).mp c_16
            refine lv_iload_n hx hb dX9_kindTold_30 rfl (lv_at hl 1 rfl) ?_
            refine lv_istore_n (lv' := [(1, .int 3), (2, .int 4), (0, .ref h0)]) hx hb dX9_kindTold_31 rfl hl (by decide) rfl (fun ls hl => ?_)
            refine lv_iinc (v := 5) (lv' := [(2, .int 5), (1, .int 3), (0, .ref h0)]) hx hb dX9_kindTold_32 hl (k := 1) rfl (by decide) (by decide) rfl (fun ls hl => ?_)
            refine lv_goto (tgt := 4) hx hb dX9_kindTold_35 (by decide) ?_
            refine lv_iload_n hx hb dX9_kindTold_4 rfl (lv_at hl 0 rfl) ?_
            refine lv_aload_n hx hb dX9_kindTold_5 rfl (lv_at hl 2 rfl) ?_
            refine va_get (D := (dC, dI)) (ci := 7) (v := .ref i0) (C := RX9) (T := TX9) (N := 28) hx hb hts inX9 hown hK hP 0 rfl rfl 17 (by decide) (hts _ (List.mem_of_getElem? (i := 1) rfl)) (fun _ h9 => h9) rfl dX9_kindTold_6 ?_
            refine va_alen (v := 6) hx hb hK hP 2 1 rfl rfl rfl dX9_kindTold_9 ?_
            refine lv_icmp_ge (tgt := 38) hx hb dX9_kindTold_10 (by decide) (fun c => absurd c (by decide)) (fun _ => ?_)
            refine lv_aload_n hx hb dX9_kindTold_13 rfl (lv_at hl 2 rfl) ?_
            refine lv_aload_n hx hb dX9_kindTold_14 rfl (lv_at hl 2 rfl) ?_
            refine va_get (D := (dC, dI)) (ci := 7) (v := .ref i0) (C := RX9) (T := TX9) (N := 28) hx hb hts inX9 hown hK hP 0 rfl rfl 17 (by decide) (hts _ (List.mem_of_getElem? (i := 1) rfl)) (fun _ h9 => h9) rfl dX9_kindTold_15 ?_
            refine lv_iload_n hx hb dX9_kindTold_18 rfl (lv_at hl 0 rfl) ?_
            refine va_aldq hx hb hK hP 2 1 rfl rfl (vp_in_nI (n := 5) (by decide) (by decide)) dX9_kindTold_19 ?_
            refine pp_tv (y := .ref (ad 18)) (congrArg va_rf (hjf 5 (by decide))) ?_
            have hPc := hP.sub (ws' := [(h0, .inr (7, [v0, v1, v2, v3, v4, v5, v6, v7, v8, v9, .ref e0, .int ts, .int bg, .int en, .int so, .int va, v16, .ref i0, v18, v19, v20, v21, v22, v23, v24, v25, v26, v27])), (e0, .inl (ec, 120, .inl ef))]) [0, 1] rfl
            have hKc := hK.sub (tys' := [(ec, .int)]) [0] rfl
            refine vp_callSi (W.runV (As := [.ref (ad 18)]) (rest := []) ⟨hx, hb, hml, hown, hts⟩ (m_isWord l dC dI ad h0 18 v0 v1 v2 v3 v4 v5 v6 v7 v8 v9 e0 ts bg en so va v16 (.ref i0) v18 v19 v20 v21 v22 v23 v24 v25 v26 v27 ec ef (by decide) htm hlx) (cwV 1 hts g_m_kindTold_m_isWord_231 rfl rfl rfl (by decide +kernel) ⟨(Nat.le_of_ble_eq_true rfl), (Nat.le_of_ble_eq_true rfl)⟩) ⟨preST_blind, va_recv hKc hPc (ci := 7) (q0 := 0) rfl rfl, fun U hU hW => ⟨rfl, preS_at hU hW hPc hKc hev, sf_at hsf hS (fun _ h => h.elim) hU hW⟩⟩ rfl rfl hl.1 rfl (lv_room (Nat.le_of_ble_eq_true rfl)) dX9_kindTold_20 ⟨(Nat.le_of_ble_eq_true rfl), (Nat.le_of_ble_eq_true rfl)⟩) (fun r_17 hw => ?_)
            have hr_17 : r_17.toInt = 0 ∨ (r_17.toInt = 1 ∧ so.toInt = 1) := hw
            refine lv_if_eq (tgt := 30) hx hb dX9_kindTold_23 (by decide) (fun c_18 => ?_) (fun c_18 => ?_)
            · skip
              have tc_18 : r_17.toInt = 0 := (fa_eq _ _).mp c_18
              refine lv_iload_n hx hb dX9_kindTold_30 rfl (lv_at hl 1 rfl) ?_
              refine lv_istore_n (lv' := [(1, .int 3), (2, .int 5), (0, .ref h0)]) hx hb dX9_kindTold_31 rfl hl (by decide) rfl (fun ls hl => ?_)
              refine lv_iinc (v := 6) (lv' := [(2, .int 6), (1, .int 3), (0, .ref h0)]) hx hb dX9_kindTold_32 hl (k := 1) rfl (by decide) (by decide) rfl (fun ls hl => ?_)
              refine lv_goto (tgt := 4) hx hb dX9_kindTold_35 (by decide) ?_
              refine lv_iload_n hx hb dX9_kindTold_4 rfl (lv_at hl 0 rfl) ?_
              refine lv_aload_n hx hb dX9_kindTold_5 rfl (lv_at hl 2 rfl) ?_
              refine va_get (D := (dC, dI)) (ci := 7) (v := .ref i0) (C := RX9) (T := TX9) (N := 28) hx hb hts inX9 hown hK hP 0 rfl rfl 17 (by decide) (hts _ (List.mem_of_getElem? (i := 1) rfl)) (fun _ h9 => h9) rfl dX9_kindTold_6 ?_
              refine va_alen (v := 6) hx hb hK hP 2 1 rfl rfl rfl dX9_kindTold_9 ?_
              refine lv_icmp_ge (tgt := 38) hx hb dX9_kindTold_10 (by decide) (fun _ => ?_) (fun c => absurd (by decide) c)
              refine lv_iload_n hx hb dX9_kindTold_38 rfl (lv_at hl 1 rfl) ?_
              exact W.iret (v := (3 : Int32)) hx hb hr (fun t ht hW => ⟨(3 : Int32), rfl, (by first | omega | decide | (simp only [fa_lt, fa_le, fa_eq, and_true, true_and, and_false, false_and, not_true_eq_false, not_false_eq_true, li_0, li_1, li_2, li_3, li_4, li_5, li_6, li_7, li_8, li_9, li_10, li_12, li_15, li_16, li_20, li_30, li_34, li_38, li_40, li_63, li_64, li_65, li_78, li_120, li_1000, li_4000, li_10000, li_11077, li_255, li_65535, li_m1, li_m2, li_m1000000001, li_m1000000002, li_m1000000003, li_m1000000004, li_m1000000005, li_m1000000006, li_m1000000007, or_true, true_or, or_false, false_or, implies_true, true_implies, false_implies] <;> omega)), ht⟩) (fun _ h => absurd h List.not_mem_nil) dX9_kindTold_39
            · skip
              have tc_18 : ¬ r_17.toInt = 0 := fun h => c_18 ((fa_eq _ _).mpr h)
              refine lv_iload_n hx hb dX9_kindTold_26 rfl (lv_at hl 0 rfl) ?_
              refine lv_goto (tgt := 31) hx hb dX9_kindTold_27 (by decide) ?_
              refine lv_istore_n (lv' := [(1, .int 5), (2, .int 5), (0, .ref h0)]) hx hb dX9_kindTold_31 rfl hl (by decide) rfl (fun ls hl => ?_)
              refine lv_iinc (v := 6) (lv' := [(2, .int 6), (1, .int 5), (0, .ref h0)]) hx hb dX9_kindTold_32 hl (k := 1) rfl (by decide) (by decide) rfl (fun ls hl => ?_)
              refine lv_goto (tgt := 4) hx hb dX9_kindTold_35 (by decide) ?_
              refine lv_iload_n hx hb dX9_kindTold_4 rfl (lv_at hl 0 rfl) ?_
              refine lv_aload_n hx hb dX9_kindTold_5 rfl (lv_at hl 2 rfl) ?_
              refine va_get (D := (dC, dI)) (ci := 7) (v := .ref i0) (C := RX9) (T := TX9) (N := 28) hx hb hts inX9 hown hK hP 0 rfl rfl 17 (by decide) (hts _ (List.mem_of_getElem? (i := 1) rfl)) (fun _ h9 => h9) rfl dX9_kindTold_6 ?_
              refine va_alen (v := 6) hx hb hK hP 2 1 rfl rfl rfl dX9_kindTold_9 ?_
              refine lv_icmp_ge (tgt := 38) hx hb dX9_kindTold_10 (by decide) (fun _ => ?_) (fun c => absurd (by decide) c)
              refine lv_iload_n hx hb dX9_kindTold_38 rfl (lv_at hl 1 rfl) ?_
              exact W.iret (v := (5 : Int32)) hx hb hr (fun t ht hW => ⟨(5 : Int32), rfl, (by first | omega | decide | (simp only [fa_lt, fa_le, fa_eq, and_true, true_and, and_false, false_and, not_true_eq_false, not_false_eq_true, li_0, li_1, li_2, li_3, li_4, li_5, li_6, li_7, li_8, li_9, li_10, li_12, li_15, li_16, li_20, li_30, li_34, li_38, li_40, li_63, li_64, li_65, li_78, li_120, li_1000, li_4000, li_10000, li_11077, li_255, li_65535, li_m1, li_m2, li_m1000000001, li_m1000000002, li_m1000000003, li_m1000000004, li_m1000000005, li_m1000000006, li_m1000000007, or_true, true_or, or_false, false_or, implies_true, true_implies, false_implies] <;> omega)), ht⟩) (fun _ h => absurd h List.not_mem_nil) dX9_kindTold_39
          · skip
            have tc_16 : ¬ r_15.toInt = 0 := fun h => c_16 ((fa_eq _ _).mpr h)
            refine lv_iload_n hx hb dX9_kindTold_26 rfl (lv_at hl 0 rfl) ?_
            refine lv_goto (tgt := 31) hx hb dX9_kindTold_27 (by decide) ?_
            refine lv_istore_n (lv' := [(1, .int 4), (2, .int 4), (0, .ref h0)]) hx hb dX9_kindTold_31 rfl hl (by decide) rfl (fun ls hl => ?_)
            refine lv_iinc (v := 5) (lv' := [(2, .int 5), (1, .int 4), (0, .ref h0)]) hx hb dX9_kindTold_32 hl (k := 1) rfl (by decide) (by decide) rfl (fun ls hl => ?_)
            refine lv_goto (tgt := 4) hx hb dX9_kindTold_35 (by decide) ?_
            refine lv_iload_n hx hb dX9_kindTold_4 rfl (lv_at hl 0 rfl) ?_
            refine lv_aload_n hx hb dX9_kindTold_5 rfl (lv_at hl 2 rfl) ?_
            refine va_get (D := (dC, dI)) (ci := 7) (v := .ref i0) (C := RX9) (T := TX9) (N := 28) hx hb hts inX9 hown hK hP 0 rfl rfl 17 (by decide) (hts _ (List.mem_of_getElem? (i := 1) rfl)) (fun _ h9 => h9) rfl dX9_kindTold_6 ?_
            refine va_alen (v := 6) hx hb hK hP 2 1 rfl rfl rfl dX9_kindTold_9 ?_
            refine lv_icmp_ge (tgt := 38) hx hb dX9_kindTold_10 (by decide) (fun c => absurd c (by decide)) (fun _ => ?_)
            refine lv_aload_n hx hb dX9_kindTold_13 rfl (lv_at hl 2 rfl) ?_
            refine lv_aload_n hx hb dX9_kindTold_14 rfl (lv_at hl 2 rfl) ?_
            refine va_get (D := (dC, dI)) (ci := 7) (v := .ref i0) (C := RX9) (T := TX9) (N := 28) hx hb hts inX9 hown hK hP 0 rfl rfl 17 (by decide) (hts _ (List.mem_of_getElem? (i := 1) rfl)) (fun _ h9 => h9) rfl dX9_kindTold_15 ?_
            refine lv_iload_n hx hb dX9_kindTold_18 rfl (lv_at hl 0 rfl) ?_
            refine va_aldq hx hb hK hP 2 1 rfl rfl (vp_in_nI (n := 5) (by decide) (by decide)) dX9_kindTold_19 ?_
            refine pp_tv (y := .ref (ad 18)) (congrArg va_rf (hjf 5 (by decide))) ?_
            have hPc := hP.sub (ws' := [(h0, .inr (7, [v0, v1, v2, v3, v4, v5, v6, v7, v8, v9, .ref e0, .int ts, .int bg, .int en, .int so, .int va, v16, .ref i0, v18, v19, v20, v21, v22, v23, v24, v25, v26, v27])), (e0, .inl (ec, 120, .inl ef))]) [0, 1] rfl
            have hKc := hK.sub (tys' := [(ec, .int)]) [0] rfl
            refine vp_callSi (W.runV (As := [.ref (ad 18)]) (rest := []) ⟨hx, hb, hml, hown, hts⟩ (m_isWord l dC dI ad h0 18 v0 v1 v2 v3 v4 v5 v6 v7 v8 v9 e0 ts bg en so va v16 (.ref i0) v18 v19 v20 v21 v22 v23 v24 v25 v26 v27 ec ef (by decide) htm hlx) (cwV 1 hts g_m_kindTold_m_isWord_231 rfl rfl rfl (by decide +kernel) ⟨(Nat.le_of_ble_eq_true rfl), (Nat.le_of_ble_eq_true rfl)⟩) ⟨preST_blind, va_recv hKc hPc (ci := 7) (q0 := 0) rfl rfl, fun U hU hW => ⟨rfl, preS_at hU hW hPc hKc hev, sf_at hsf hS (fun _ h => h.elim) hU hW⟩⟩ rfl rfl hl.1 rfl (lv_room (Nat.le_of_ble_eq_true rfl)) dX9_kindTold_20 ⟨(Nat.le_of_ble_eq_true rfl), (Nat.le_of_ble_eq_true rfl)⟩) (fun r_19 hw => ?_)
            have hr_19 : r_19.toInt = 0 ∨ (r_19.toInt = 1 ∧ so.toInt = 1) := hw
            refine lv_if_eq (tgt := 30) hx hb dX9_kindTold_23 (by decide) (fun c_20 => ?_) (fun c_20 => ?_)
            · skip
              have tc_20 : r_19.toInt = 0 := (fa_eq _ _).mp c_20
              refine lv_iload_n hx hb dX9_kindTold_30 rfl (lv_at hl 1 rfl) ?_
              refine lv_istore_n (lv' := [(1, .int 4), (2, .int 5), (0, .ref h0)]) hx hb dX9_kindTold_31 rfl hl (by decide) rfl (fun ls hl => ?_)
              refine lv_iinc (v := 6) (lv' := [(2, .int 6), (1, .int 4), (0, .ref h0)]) hx hb dX9_kindTold_32 hl (k := 1) rfl (by decide) (by decide) rfl (fun ls hl => ?_)
              refine lv_goto (tgt := 4) hx hb dX9_kindTold_35 (by decide) ?_
              refine lv_iload_n hx hb dX9_kindTold_4 rfl (lv_at hl 0 rfl) ?_
              refine lv_aload_n hx hb dX9_kindTold_5 rfl (lv_at hl 2 rfl) ?_
              refine va_get (D := (dC, dI)) (ci := 7) (v := .ref i0) (C := RX9) (T := TX9) (N := 28) hx hb hts inX9 hown hK hP 0 rfl rfl 17 (by decide) (hts _ (List.mem_of_getElem? (i := 1) rfl)) (fun _ h9 => h9) rfl dX9_kindTold_6 ?_
              refine va_alen (v := 6) hx hb hK hP 2 1 rfl rfl rfl dX9_kindTold_9 ?_
              refine lv_icmp_ge (tgt := 38) hx hb dX9_kindTold_10 (by decide) (fun _ => ?_) (fun c => absurd (by decide) c)
              refine lv_iload_n hx hb dX9_kindTold_38 rfl (lv_at hl 1 rfl) ?_
              exact W.iret (v := (4 : Int32)) hx hb hr (fun t ht hW => ⟨(4 : Int32), rfl, (by first | omega | decide | (simp only [fa_lt, fa_le, fa_eq, and_true, true_and, and_false, false_and, not_true_eq_false, not_false_eq_true, li_0, li_1, li_2, li_3, li_4, li_5, li_6, li_7, li_8, li_9, li_10, li_12, li_15, li_16, li_20, li_30, li_34, li_38, li_40, li_63, li_64, li_65, li_78, li_120, li_1000, li_4000, li_10000, li_11077, li_255, li_65535, li_m1, li_m2, li_m1000000001, li_m1000000002, li_m1000000003, li_m1000000004, li_m1000000005, li_m1000000006, li_m1000000007, or_true, true_or, or_false, false_or, implies_true, true_implies, false_implies] <;> omega)), ht⟩) (fun _ h => absurd h List.not_mem_nil) dX9_kindTold_39
            · skip
              have tc_20 : ¬ r_19.toInt = 0 := fun h => c_20 ((fa_eq _ _).mpr h)
              refine lv_iload_n hx hb dX9_kindTold_26 rfl (lv_at hl 0 rfl) ?_
              refine lv_goto (tgt := 31) hx hb dX9_kindTold_27 (by decide) ?_
              refine lv_istore_n (lv' := [(1, .int 5), (2, .int 5), (0, .ref h0)]) hx hb dX9_kindTold_31 rfl hl (by decide) rfl (fun ls hl => ?_)
              refine lv_iinc (v := 6) (lv' := [(2, .int 6), (1, .int 5), (0, .ref h0)]) hx hb dX9_kindTold_32 hl (k := 1) rfl (by decide) (by decide) rfl (fun ls hl => ?_)
              refine lv_goto (tgt := 4) hx hb dX9_kindTold_35 (by decide) ?_
              refine lv_iload_n hx hb dX9_kindTold_4 rfl (lv_at hl 0 rfl) ?_
              refine lv_aload_n hx hb dX9_kindTold_5 rfl (lv_at hl 2 rfl) ?_
              refine va_get (D := (dC, dI)) (ci := 7) (v := .ref i0) (C := RX9) (T := TX9) (N := 28) hx hb hts inX9 hown hK hP 0 rfl rfl 17 (by decide) (hts _ (List.mem_of_getElem? (i := 1) rfl)) (fun _ h9 => h9) rfl dX9_kindTold_6 ?_
              refine va_alen (v := 6) hx hb hK hP 2 1 rfl rfl rfl dX9_kindTold_9 ?_
              refine lv_icmp_ge (tgt := 38) hx hb dX9_kindTold_10 (by decide) (fun _ => ?_) (fun c => absurd (by decide) c)
              refine lv_iload_n hx hb dX9_kindTold_38 rfl (lv_at hl 1 rfl) ?_
              exact W.iret (v := (5 : Int32)) hx hb hr (fun t ht hW => ⟨(5 : Int32), rfl, (by first | omega | decide | (simp only [fa_lt, fa_le, fa_eq, and_true, true_and, and_false, false_and, not_true_eq_false, not_false_eq_true, li_0, li_1, li_2, li_3, li_4, li_5, li_6, li_7, li_8, li_9, li_10, li_12, li_15, li_16, li_20, li_30, li_34, li_38, li_40, li_63, li_64, li_65, li_78, li_120, li_1000, li_4000, li_10000, li_11077, li_255, li_65535, li_m1, li_m2, li_m1000000001, li_m1000000002, li_m1000000003, li_m1000000004, li_m1000000005, li_m1000000006, li_m1000000007, or_true, true_or, or_false, false_or, implies_true, true_implies, false_implies] <;> omega)), ht⟩) (fun _ h => absurd h List.not_mem_nil) dX9_kindTold_39
      · skip
        have tc_6 : ¬ r_5.toInt = 0 := fun h => c_6 ((fa_eq _ _).mpr h)
        refine lv_iload_n hx hb dX9_kindTold_26 rfl (lv_at hl 0 rfl) ?_
        refine lv_goto (tgt := 31) hx hb dX9_kindTold_27 (by decide) ?_
        refine lv_istore_n (lv' := [(1, .int 2), (2, .int 2), (0, .ref h0)]) hx hb dX9_kindTold_31 rfl hl (by decide) rfl (fun ls hl => ?_)
        refine lv_iinc (v := 3) (lv' := [(2, .int 3), (1, .int 2), (0, .ref h0)]) hx hb dX9_kindTold_32 hl (k := 1) rfl (by decide) (by decide) rfl (fun ls hl => ?_)
        refine lv_goto (tgt := 4) hx hb dX9_kindTold_35 (by decide) ?_
        refine lv_iload_n hx hb dX9_kindTold_4 rfl (lv_at hl 0 rfl) ?_
        refine lv_aload_n hx hb dX9_kindTold_5 rfl (lv_at hl 2 rfl) ?_
        refine va_get (D := (dC, dI)) (ci := 7) (v := .ref i0) (C := RX9) (T := TX9) (N := 28) hx hb hts inX9 hown hK hP 0 rfl rfl 17 (by decide) (hts _ (List.mem_of_getElem? (i := 1) rfl)) (fun _ h9 => h9) rfl dX9_kindTold_6 ?_
        refine va_alen (v := 6) hx hb hK hP 2 1 rfl rfl rfl dX9_kindTold_9 ?_
        refine lv_icmp_ge (tgt := 38) hx hb dX9_kindTold_10 (by decide) (fun c => absurd c (by decide)) (fun _ => ?_)
        refine lv_aload_n hx hb dX9_kindTold_13 rfl (lv_at hl 2 rfl) ?_
        refine lv_aload_n hx hb dX9_kindTold_14 rfl (lv_at hl 2 rfl) ?_
        refine va_get (D := (dC, dI)) (ci := 7) (v := .ref i0) (C := RX9) (T := TX9) (N := 28) hx hb hts inX9 hown hK hP 0 rfl rfl 17 (by decide) (hts _ (List.mem_of_getElem? (i := 1) rfl)) (fun _ h9 => h9) rfl dX9_kindTold_15 ?_
        refine lv_iload_n hx hb dX9_kindTold_18 rfl (lv_at hl 0 rfl) ?_
        refine va_aldq hx hb hK hP 2 1 rfl rfl (vp_in_nI (n := 3) (by decide) (by decide)) dX9_kindTold_19 ?_
        refine pp_tv (y := .ref (ad 16)) (congrArg va_rf (hjf 3 (by decide))) ?_
        have hPc := hP.sub (ws' := [(h0, .inr (7, [v0, v1, v2, v3, v4, v5, v6, v7, v8, v9, .ref e0, .int ts, .int bg, .int en, .int so, .int va, v16, .ref i0, v18, v19, v20, v21, v22, v23, v24, v25, v26, v27])), (e0, .inl (ec, 120, .inl ef))]) [0, 1] rfl
        have hKc := hK.sub (tys' := [(ec, .int)]) [0] rfl
        refine vp_callSi (W.runV (As := [.ref (ad 16)]) (rest := []) ⟨hx, hb, hml, hown, hts⟩ (m_isWord l dC dI ad h0 16 v0 v1 v2 v3 v4 v5 v6 v7 v8 v9 e0 ts bg en so va v16 (.ref i0) v18 v19 v20 v21 v22 v23 v24 v25 v26 v27 ec ef (by decide) htm hlx) (cwV 1 hts g_m_kindTold_m_isWord_231 rfl rfl rfl (by decide +kernel) ⟨(Nat.le_of_ble_eq_true rfl), (Nat.le_of_ble_eq_true rfl)⟩) ⟨preST_blind, va_recv hKc hPc (ci := 7) (q0 := 0) rfl rfl, fun U hU hW => ⟨rfl, preS_at hU hW hPc hKc hev, sf_at hsf hS (fun _ h => h.elim) hU hW⟩⟩ rfl rfl hl.1 rfl (lv_room (Nat.le_of_ble_eq_true rfl)) dX9_kindTold_20 ⟨(Nat.le_of_ble_eq_true rfl), (Nat.le_of_ble_eq_true rfl)⟩) (fun r_21 hw => ?_)
        have hr_21 : r_21.toInt = 0 ∨ (r_21.toInt = 1 ∧ so.toInt = 1) := hw
        refine lv_if_eq (tgt := 30) hx hb dX9_kindTold_23 (by decide) (fun c_22 => ?_) (fun c_22 => ?_)
        · skip
          have tc_22 : r_21.toInt = 0 := (fa_eq _ _).mp c_22
          refine lv_iload_n hx hb dX9_kindTold_30 rfl (lv_at hl 1 rfl) ?_
          refine lv_istore_n (lv' := [(1, .int 2), (2, .int 3), (0, .ref h0)]) hx hb dX9_kindTold_31 rfl hl (by decide) rfl (fun ls hl => ?_)
          refine lv_iinc (v := 4) (lv' := [(2, .int 4), (1, .int 2), (0, .ref h0)]) hx hb dX9_kindTold_32 hl (k := 1) rfl (by decide) (by decide) rfl (fun ls hl => ?_)
          refine lv_goto (tgt := 4) hx hb dX9_kindTold_35 (by decide) ?_
          refine lv_iload_n hx hb dX9_kindTold_4 rfl (lv_at hl 0 rfl) ?_
          refine lv_aload_n hx hb dX9_kindTold_5 rfl (lv_at hl 2 rfl) ?_
          refine va_get (D := (dC, dI)) (ci := 7) (v := .ref i0) (C := RX9) (T := TX9) (N := 28) hx hb hts inX9 hown hK hP 0 rfl rfl 17 (by decide) (hts _ (List.mem_of_getElem? (i := 1) rfl)) (fun _ h9 => h9) rfl dX9_kindTold_6 ?_
          refine va_alen (v := 6) hx hb hK hP 2 1 rfl rfl rfl dX9_kindTold_9 ?_
          refine lv_icmp_ge (tgt := 38) hx hb dX9_kindTold_10 (by decide) (fun c => absurd c (by decide)) (fun _ => ?_)
          refine lv_aload_n hx hb dX9_kindTold_13 rfl (lv_at hl 2 rfl) ?_
          refine lv_aload_n hx hb dX9_kindTold_14 rfl (lv_at hl 2 rfl) ?_
          refine va_get (D := (dC, dI)) (ci := 7) (v := .ref i0) (C := RX9) (T := TX9) (N := 28) hx hb hts inX9 hown hK hP 0 rfl rfl 17 (by decide) (hts _ (List.mem_of_getElem? (i := 1) rfl)) (fun _ h9 => h9) rfl dX9_kindTold_15 ?_
          refine lv_iload_n hx hb dX9_kindTold_18 rfl (lv_at hl 0 rfl) ?_
          refine va_aldq hx hb hK hP 2 1 rfl rfl (vp_in_nI (n := 4) (by decide) (by decide)) dX9_kindTold_19 ?_
          refine pp_tv (y := .ref (ad 17)) (congrArg va_rf (hjf 4 (by decide))) ?_
          have hPc := hP.sub (ws' := [(h0, .inr (7, [v0, v1, v2, v3, v4, v5, v6, v7, v8, v9, .ref e0, .int ts, .int bg, .int en, .int so, .int va, v16, .ref i0, v18, v19, v20, v21, v22, v23, v24, v25, v26, v27])), (e0, .inl (ec, 120, .inl ef))]) [0, 1] rfl
          have hKc := hK.sub (tys' := [(ec, .int)]) [0] rfl
          refine vp_callSi (W.runV (As := [.ref (ad 17)]) (rest := []) ⟨hx, hb, hml, hown, hts⟩ (m_isWord l dC dI ad h0 17 v0 v1 v2 v3 v4 v5 v6 v7 v8 v9 e0 ts bg en so va v16 (.ref i0) v18 v19 v20 v21 v22 v23 v24 v25 v26 v27 ec ef (by decide) htm hlx) (cwV 1 hts g_m_kindTold_m_isWord_231 rfl rfl rfl (by decide +kernel) ⟨(Nat.le_of_ble_eq_true rfl), (Nat.le_of_ble_eq_true rfl)⟩) ⟨preST_blind, va_recv hKc hPc (ci := 7) (q0 := 0) rfl rfl, fun U hU hW => ⟨rfl, preS_at hU hW hPc hKc hev, sf_at hsf hS (fun _ h => h.elim) hU hW⟩⟩ rfl rfl hl.1 rfl (lv_room (Nat.le_of_ble_eq_true rfl)) dX9_kindTold_20 ⟨(Nat.le_of_ble_eq_true rfl), (Nat.le_of_ble_eq_true rfl)⟩) (fun r_23 hw => ?_)
          have hr_23 : r_23.toInt = 0 ∨ (r_23.toInt = 1 ∧ so.toInt = 1) := hw
          refine lv_if_eq (tgt := 30) hx hb dX9_kindTold_23 (by decide) (fun c_24 => ?_) (fun c_24 => ?_)
          · skip
            have tc_24 : r_23.toInt = 0 := (fa_eq _ _).mp c_24
            refine lv_iload_n hx hb dX9_kindTold_30 rfl (lv_at hl 1 rfl) ?_
            refine lv_istore_n (lv' := [(1, .int 2), (2, .int 4), (0, .ref h0)]) hx hb dX9_kindTold_31 rfl hl (by decide) rfl (fun ls hl => ?_)
            refine lv_iinc (v := 5) (lv' := [(2, .int 5), (1, .int 2), (0, .ref h0)]) hx hb dX9_kindTold_32 hl (k := 1) rfl (by decide) (by decide) rfl (fun ls hl => ?_)
            refine lv_goto (tgt := 4) hx hb dX9_kindTold_35 (by decide) ?_
            refine lv_iload_n hx hb dX9_kindTold_4 rfl (lv_at hl 0 rfl) ?_
            refine lv_aload_n hx hb dX9_kindTold_5 rfl (lv_at hl 2 rfl) ?_
            refine va_get (D := (dC, dI)) (ci := 7) (v := .ref i0) (C := RX9) (T := TX9) (N := 28) hx hb hts inX9 hown hK hP 0 rfl rfl 17 (by decide) (hts _ (List.mem_of_getElem? (i := 1) rfl)) (fun _ h9 => h9) rfl dX9_kindTold_6 ?_
            refine va_alen (v := 6) hx hb hK hP 2 1 rfl rfl rfl dX9_kindTold_9 ?_
            refine lv_icmp_ge (tgt := 38) hx hb dX9_kindTold_10 (by decide) (fun c => absurd c (by decide)) (fun _ => ?_)
            refine lv_aload_n hx hb dX9_kindTold_13 rfl (lv_at hl 2 rfl) ?_
            refine lv_aload_n hx hb dX9_kindTold_14 rfl (lv_at hl 2 rfl) ?_
            refine va_get (D := (dC, dI)) (ci := 7) (v := .ref i0) (C := RX9) (T := TX9) (N := 28) hx hb hts inX9 hown hK hP 0 rfl rfl 17 (by decide) (hts _ (List.mem_of_getElem? (i := 1) rfl)) (fun _ h9 => h9) rfl dX9_kindTold_15 ?_
            refine lv_iload_n hx hb dX9_kindTold_18 rfl (lv_at hl 0 rfl) ?_
            refine va_aldq hx hb hK hP 2 1 rfl rfl (vp_in_nI (n := 5) (by decide) (by decide)) dX9_kindTold_19 ?_
            refine pp_tv (y := .ref (ad 18)) (congrArg va_rf (hjf 5 (by decide))) ?_
            have hPc := hP.sub (ws' := [(h0, .inr (7, [v0, v1, v2, v3, v4, v5, v6, v7, v8, v9, .ref e0, .int ts, .int bg, .int en, .int so, .int va, v16, .ref i0, v18, v19, v20, v21, v22, v23, v24, v25, v26, v27])), (e0, .inl (ec, 120, .inl ef))]) [0, 1] rfl
            have hKc := hK.sub (tys' := [(ec, .int)]) [0] rfl
            refine vp_callSi (W.runV (As := [.ref (ad 18)]) (rest := []) ⟨hx, hb, hml, hown, hts⟩ (m_isWord l dC dI ad h0 18 v0 v1 v2 v3 v4 v5 v6 v7 v8 v9 e0 ts bg en so va v16 (.ref i0) v18 v19 v20 v21 v22 v23 v24 v25 v26 v27 ec ef (by decide) htm hlx) (cwV 1 hts g_m_kindTold_m_isWord_231 rfl rfl rfl (by decide +kernel) ⟨(Nat.le_of_ble_eq_true rfl), (Nat.le_of_ble_eq_true rfl)⟩) ⟨preST_blind, va_recv hKc hPc (ci := 7) (q0 := 0) rfl rfl, fun U hU hW => ⟨rfl, preS_at hU hW hPc hKc hev, sf_at hsf hS (fun _ h => h.elim) hU hW⟩⟩ rfl rfl hl.1 rfl (lv_room (Nat.le_of_ble_eq_true rfl)) dX9_kindTold_20 ⟨(Nat.le_of_ble_eq_true rfl), (Nat.le_of_ble_eq_true rfl)⟩) (fun r_25 hw => ?_)
            have hr_25 : r_25.toInt = 0 ∨ (r_25.toInt = 1 ∧ so.toInt = 1) := hw
            refine lv_if_eq (tgt := 30) hx hb dX9_kindTold_23 (by decide) (fun c_26 => ?_) (fun c_26 => ?_)
            · skip
              have tc_26 : r_25.toInt = 0 := (fa_eq _ _).mp c_26
              refine lv_iload_n hx hb dX9_kindTold_30 rfl (lv_at hl 1 rfl) ?_
              refine lv_istore_n (lv' := [(1, .int 2), (2, .int 5), (0, .ref h0)]) hx hb dX9_kindTold_31 rfl hl (by decide) rfl (fun ls hl => ?_)
              refine lv_iinc (v := 6) (lv' := [(2, .int 6), (1, .int 2), (0, .ref h0)]) hx hb dX9_kindTold_32 hl (k := 1) rfl (by decide) (by decide) rfl (fun ls hl => ?_)
              refine lv_goto (tgt := 4) hx hb dX9_kindTold_35 (by decide) ?_
              refine lv_iload_n hx hb dX9_kindTold_4 rfl (lv_at hl 0 rfl) ?_
              refine lv_aload_n hx hb dX9_kindTold_5 rfl (lv_at hl 2 rfl) ?_
              refine va_get (D := (dC, dI)) (ci := 7) (v := .ref i0) (C := RX9) (T := TX9) (N := 28) hx hb hts inX9 hown hK hP 0 rfl rfl 17 (by decide) (hts _ (List.mem_of_getElem? (i := 1) rfl)) (fun _ h9 => h9) rfl dX9_kindTold_6 ?_
              refine va_alen (v := 6) hx hb hK hP 2 1 rfl rfl rfl dX9_kindTold_9 ?_
              refine lv_icmp_ge (tgt := 38) hx hb dX9_kindTold_10 (by decide) (fun _ => ?_) (fun c => absurd (by decide) c)
              refine lv_iload_n hx hb dX9_kindTold_38 rfl (lv_at hl 1 rfl) ?_
              exact W.iret (v := (2 : Int32)) hx hb hr (fun t ht hW => ⟨(2 : Int32), rfl, (by first | omega | decide | (simp only [fa_lt, fa_le, fa_eq, and_true, true_and, and_false, false_and, not_true_eq_false, not_false_eq_true, li_0, li_1, li_2, li_3, li_4, li_5, li_6, li_7, li_8, li_9, li_10, li_12, li_15, li_16, li_20, li_30, li_34, li_38, li_40, li_63, li_64, li_65, li_78, li_120, li_1000, li_4000, li_10000, li_11077, li_255, li_65535, li_m1, li_m2, li_m1000000001, li_m1000000002, li_m1000000003, li_m1000000004, li_m1000000005, li_m1000000006, li_m1000000007, or_true, true_or, or_false, false_or, implies_true, true_implies, false_implies] <;> omega)), ht⟩) (fun _ h => absurd h List.not_mem_nil) dX9_kindTold_39
            · skip
              have tc_26 : ¬ r_25.toInt = 0 := fun h => c_26 ((fa_eq _ _).mpr h)
              refine lv_iload_n hx hb dX9_kindTold_26 rfl (lv_at hl 0 rfl) ?_
              refine lv_goto (tgt := 31) hx hb dX9_kindTold_27 (by decide) ?_
              refine lv_istore_n (lv' := [(1, .int 5), (2, .int 5), (0, .ref h0)]) hx hb dX9_kindTold_31 rfl hl (by decide) rfl (fun ls hl => ?_)
              refine lv_iinc (v := 6) (lv' := [(2, .int 6), (1, .int 5), (0, .ref h0)]) hx hb dX9_kindTold_32 hl (k := 1) rfl (by decide) (by decide) rfl (fun ls hl => ?_)
              refine lv_goto (tgt := 4) hx hb dX9_kindTold_35 (by decide) ?_
              refine lv_iload_n hx hb dX9_kindTold_4 rfl (lv_at hl 0 rfl) ?_
              refine lv_aload_n hx hb dX9_kindTold_5 rfl (lv_at hl 2 rfl) ?_
              refine va_get (D := (dC, dI)) (ci := 7) (v := .ref i0) (C := RX9) (T := TX9) (N := 28) hx hb hts inX9 hown hK hP 0 rfl rfl 17 (by decide) (hts _ (List.mem_of_getElem? (i := 1) rfl)) (fun _ h9 => h9) rfl dX9_kindTold_6 ?_
              refine va_alen (v := 6) hx hb hK hP 2 1 rfl rfl rfl dX9_kindTold_9 ?_
              refine lv_icmp_ge (tgt := 38) hx hb dX9_kindTold_10 (by decide) (fun _ => ?_) (fun c => absurd (by decide) c)
              refine lv_iload_n hx hb dX9_kindTold_38 rfl (lv_at hl 1 rfl) ?_
              exact W.iret (v := (5 : Int32)) hx hb hr (fun t ht hW => ⟨(5 : Int32), rfl, (by first | omega | decide | (simp only [fa_lt, fa_le, fa_eq, and_true, true_and, and_false, false_and, not_true_eq_false, not_false_eq_true, li_0, li_1, li_2, li_3, li_4, li_5, li_6, li_7, li_8, li_9, li_10, li_12, li_15, li_16, li_20, li_30, li_34, li_38, li_40, li_63, li_64, li_65, li_78, li_120, li_1000, li_4000, li_10000, li_11077, li_255, li_65535, li_m1, li_m2, li_m1000000001, li_m1000000002, li_m1000000003, li_m1000000004, li_m1000000005, li_m1000000006, li_m1000000007, or_true, true_or, or_false, false_or, implies_true, true_implies, false_implies] <;> omega)), ht⟩) (fun _ h => absurd h List.not_mem_nil) dX9_kindTold_39
          · skip
            have tc_24 : ¬ r_23.toInt = 0 := fun h => c_24 ((fa_eq _ _).mpr h)
            refine lv_iload_n hx hb dX9_kindTold_26 rfl (lv_at hl 0 rfl) ?_
            refine lv_goto (tgt := 31) hx hb dX9_kindTold_27 (by decide) ?_
            refine lv_istore_n (lv' := [(1, .int 4), (2, .int 4), (0, .ref h0)]) hx hb dX9_kindTold_31 rfl hl (by decide) rfl (fun ls hl => ?_)
            refine lv_iinc (v := 5) (lv' := [(2, .int 5), (1, .int 4), (0, .ref h0)]) hx hb dX9_kindTold_32 hl (k := 1) rfl (by decide) (by decide) rfl (fun ls hl => ?_)
            refine lv_goto (tgt := 4) hx hb dX9_kindTold_35 (by decide) ?_
            refine lv_iload_n hx hb dX9_kindTold_4 rfl (lv_at hl 0 rfl) ?_
            refine lv_aload_n hx hb dX9_kindTold_5 rfl (lv_at hl 2 rfl) ?_
            refine va_get (D := (dC, dI)) (ci := 7) (v := .ref i0) (C := RX9) (T := TX9) (N := 28) hx hb hts inX9 hown hK hP 0 rfl rfl 17 (by decide) (hts _ (List.mem_of_getElem? (i := 1) rfl)) (fun _ h9 => h9) rfl dX9_kindTold_6 ?_
            refine va_alen (v := 6) hx hb hK hP 2 1 rfl rfl rfl dX9_kindTold_9 ?_
            refine lv_icmp_ge (tgt := 38) hx hb dX9_kindTold_10 (by decide) (fun c => absurd c (by decide)) (fun _ => ?_)
            refine lv_aload_n hx hb dX9_kindTold_13 rfl (lv_at hl 2 rfl) ?_
            refine lv_aload_n hx hb dX9_kindTold_14 rfl (lv_at hl 2 rfl) ?_
            refine va_get (D := (dC, dI)) (ci := 7) (v := .ref i0) (C := RX9) (T := TX9) (N := 28) hx hb hts inX9 hown hK hP 0 rfl rfl 17 (by decide) (hts _ (List.mem_of_getElem? (i := 1) rfl)) (fun _ h9 => h9) rfl dX9_kindTold_15 ?_
            refine lv_iload_n hx hb dX9_kindTold_18 rfl (lv_at hl 0 rfl) ?_
            refine va_aldq hx hb hK hP 2 1 rfl rfl (vp_in_nI (n := 5) (by decide) (by decide)) dX9_kindTold_19 ?_
            refine pp_tv (y := .ref (ad 18)) (congrArg va_rf (hjf 5 (by decide))) ?_
            have hPc := hP.sub (ws' := [(h0, .inr (7, [v0, v1, v2, v3, v4, v5, v6, v7, v8, v9, .ref e0, .int ts, .int bg, .int en, .int so, .int va, v16, .ref i0, v18, v19, v20, v21, v22, v23, v24, v25, v26, v27])), (e0, .inl (ec, 120, .inl ef))]) [0, 1] rfl
            have hKc := hK.sub (tys' := [(ec, .int)]) [0] rfl
            refine vp_callSi (W.runV (As := [.ref (ad 18)]) (rest := []) ⟨hx, hb, hml, hown, hts⟩ (m_isWord l dC dI ad h0 18 v0 v1 v2 v3 v4 v5 v6 v7 v8 v9 e0 ts bg en so va v16 (.ref i0) v18 v19 v20 v21 v22 v23 v24 v25 v26 v27 ec ef (by decide) htm hlx) (cwV 1 hts g_m_kindTold_m_isWord_231 rfl rfl rfl (by decide +kernel) ⟨(Nat.le_of_ble_eq_true rfl), (Nat.le_of_ble_eq_true rfl)⟩) ⟨preST_blind, va_recv hKc hPc (ci := 7) (q0 := 0) rfl rfl, fun U hU hW => ⟨rfl, preS_at hU hW hPc hKc hev, sf_at hsf hS (fun _ h => h.elim) hU hW⟩⟩ rfl rfl hl.1 rfl (lv_room (Nat.le_of_ble_eq_true rfl)) dX9_kindTold_20 ⟨(Nat.le_of_ble_eq_true rfl), (Nat.le_of_ble_eq_true rfl)⟩) (fun r_27 hw => ?_)
            have hr_27 : r_27.toInt = 0 ∨ (r_27.toInt = 1 ∧ so.toInt = 1) := hw
            refine lv_if_eq (tgt := 30) hx hb dX9_kindTold_23 (by decide) (fun c_28 => ?_) (fun c_28 => ?_)
            · skip
              have tc_28 : r_27.toInt = 0 := (fa_eq _ _).mp c_28
              refine lv_iload_n hx hb dX9_kindTold_30 rfl (lv_at hl 1 rfl) ?_
              refine lv_istore_n (lv' := [(1, .int 4), (2, .int 5), (0, .ref h0)]) hx hb dX9_kindTold_31 rfl hl (by decide) rfl (fun ls hl => ?_)
              refine lv_iinc (v := 6) (lv' := [(2, .int 6), (1, .int 4), (0, .ref h0)]) hx hb dX9_kindTold_32 hl (k := 1) rfl (by decide) (by decide) rfl (fun ls hl => ?_)
              refine lv_goto (tgt := 4) hx hb dX9_kindTold_35 (by decide) ?_
              refine lv_iload_n hx hb dX9_kindTold_4 rfl (lv_at hl 0 rfl) ?_
              refine lv_aload_n hx hb dX9_kindTold_5 rfl (lv_at hl 2 rfl) ?_
              refine va_get (D := (dC, dI)) (ci := 7) (v := .ref i0) (C := RX9) (T := TX9) (N := 28) hx hb hts inX9 hown hK hP 0 rfl rfl 17 (by decide) (hts _ (List.mem_of_getElem? (i := 1) rfl)) (fun _ h9 => h9) rfl dX9_kindTold_6 ?_
              refine va_alen (v := 6) hx hb hK hP 2 1 rfl rfl rfl dX9_kindTold_9 ?_
              refine lv_icmp_ge (tgt := 38) hx hb dX9_kindTold_10 (by decide) (fun _ => ?_) (fun c => absurd (by decide) c)
              refine lv_iload_n hx hb dX9_kindTold_38 rfl (lv_at hl 1 rfl) ?_
              exact W.iret (v := (4 : Int32)) hx hb hr (fun t ht hW => ⟨(4 : Int32), rfl, (by first | omega | decide | (simp only [fa_lt, fa_le, fa_eq, and_true, true_and, and_false, false_and, not_true_eq_false, not_false_eq_true, li_0, li_1, li_2, li_3, li_4, li_5, li_6, li_7, li_8, li_9, li_10, li_12, li_15, li_16, li_20, li_30, li_34, li_38, li_40, li_63, li_64, li_65, li_78, li_120, li_1000, li_4000, li_10000, li_11077, li_255, li_65535, li_m1, li_m2, li_m1000000001, li_m1000000002, li_m1000000003, li_m1000000004, li_m1000000005, li_m1000000006, li_m1000000007, or_true, true_or, or_false, false_or, implies_true, true_implies, false_implies] <;> omega)), ht⟩) (fun _ h => absurd h List.not_mem_nil) dX9_kindTold_39
            · skip
              have tc_28 : ¬ r_27.toInt = 0 := fun h => c_28 ((fa_eq _ _).mpr h)
              refine lv_iload_n hx hb dX9_kindTold_26 rfl (lv_at hl 0 rfl) ?_
              refine lv_goto (tgt := 31) hx hb dX9_kindTold_27 (by decide) ?_
              refine lv_istore_n (lv' := [(1, .int 5), (2, .int 5), (0, .ref h0)]) hx hb dX9_kindTold_31 rfl hl (by decide) rfl (fun ls hl => ?_)
              refine lv_iinc (v := 6) (lv' := [(2, .int 6), (1, .int 5), (0, .ref h0)]) hx hb dX9_kindTold_32 hl (k := 1) rfl (by decide) (by decide) rfl (fun ls hl => ?_)
              refine lv_goto (tgt := 4) hx hb dX9_kindTold_35 (by decide) ?_
              refine lv_iload_n hx hb dX9_kindTold_4 rfl (lv_at hl 0 rfl) ?_
              refine lv_aload_n hx hb dX9_kindTold_5 rfl (lv_at hl 2 rfl) ?_
              refine va_get (D := (dC, dI)) (ci := 7) (v := .ref i0) (C := RX9) (T := TX9) (N := 28) hx hb hts inX9 hown hK hP 0 rfl rfl 17 (by decide) (hts _ (List.mem_of_getElem? (i := 1) rfl)) (fun _ h9 => h9) rfl dX9_kindTold_6 ?_
              refine va_alen (v := 6) hx hb hK hP 2 1 rfl rfl rfl dX9_kindTold_9 ?_
              refine lv_icmp_ge (tgt := 38) hx hb dX9_kindTold_10 (by decide) (fun _ => ?_) (fun c => absurd (by decide) c)
              refine lv_iload_n hx hb dX9_kindTold_38 rfl (lv_at hl 1 rfl) ?_
              exact W.iret (v := (5 : Int32)) hx hb hr (fun t ht hW => ⟨(5 : Int32), rfl, (by first | omega | decide | (simp only [fa_lt, fa_le, fa_eq, and_true, true_and, and_false, false_and, not_true_eq_false, not_false_eq_true, li_0, li_1, li_2, li_3, li_4, li_5, li_6, li_7, li_8, li_9, li_10, li_12, li_15, li_16, li_20, li_30, li_34, li_38, li_40, li_63, li_64, li_65, li_78, li_120, li_1000, li_4000, li_10000, li_11077, li_255, li_65535, li_m1, li_m2, li_m1000000001, li_m1000000002, li_m1000000003, li_m1000000004, li_m1000000005, li_m1000000006, li_m1000000007, or_true, true_or, or_false, false_or, implies_true, true_implies, false_implies] <;> omega)), ht⟩) (fun _ h => absurd h List.not_mem_nil) dX9_kindTold_39
        · skip
          have tc_22 : ¬ r_21.toInt = 0 := fun h => c_22 ((fa_eq _ _).mpr h)
          refine lv_iload_n hx hb dX9_kindTold_26 rfl (lv_at hl 0 rfl) ?_
          refine lv_goto (tgt := 31) hx hb dX9_kindTold_27 (by decide) ?_
          refine lv_istore_n (lv' := [(1, .int 3), (2, .int 3), (0, .ref h0)]) hx hb dX9_kindTold_31 rfl hl (by decide) rfl (fun ls hl => ?_)
          refine lv_iinc (v := 4) (lv' := [(2, .int 4), (1, .int 3), (0, .ref h0)]) hx hb dX9_kindTold_32 hl (k := 1) rfl (by decide) (by decide) rfl (fun ls hl => ?_)
          refine lv_goto (tgt := 4) hx hb dX9_kindTold_35 (by decide) ?_
          refine lv_iload_n hx hb dX9_kindTold_4 rfl (lv_at hl 0 rfl) ?_
          refine lv_aload_n hx hb dX9_kindTold_5 rfl (lv_at hl 2 rfl) ?_
          refine va_get (D := (dC, dI)) (ci := 7) (v := .ref i0) (C := RX9) (T := TX9) (N := 28) hx hb hts inX9 hown hK hP 0 rfl rfl 17 (by decide) (hts _ (List.mem_of_getElem? (i := 1) rfl)) (fun _ h9 => h9) rfl dX9_kindTold_6 ?_
          refine va_alen (v := 6) hx hb hK hP 2 1 rfl rfl rfl dX9_kindTold_9 ?_
          refine lv_icmp_ge (tgt := 38) hx hb dX9_kindTold_10 (by decide) (fun c => absurd c (by decide)) (fun _ => ?_)
          refine lv_aload_n hx hb dX9_kindTold_13 rfl (lv_at hl 2 rfl) ?_
          refine lv_aload_n hx hb dX9_kindTold_14 rfl (lv_at hl 2 rfl) ?_
          refine va_get (D := (dC, dI)) (ci := 7) (v := .ref i0) (C := RX9) (T := TX9) (N := 28) hx hb hts inX9 hown hK hP 0 rfl rfl 17 (by decide) (hts _ (List.mem_of_getElem? (i := 1) rfl)) (fun _ h9 => h9) rfl dX9_kindTold_15 ?_
          refine lv_iload_n hx hb dX9_kindTold_18 rfl (lv_at hl 0 rfl) ?_
          refine va_aldq hx hb hK hP 2 1 rfl rfl (vp_in_nI (n := 4) (by decide) (by decide)) dX9_kindTold_19 ?_
          refine pp_tv (y := .ref (ad 17)) (congrArg va_rf (hjf 4 (by decide))) ?_
          have hPc := hP.sub (ws' := [(h0, .inr (7, [v0, v1, v2, v3, v4, v5, v6, v7, v8, v9, .ref e0, .int ts, .int bg, .int en, .int so, .int va, v16, .ref i0, v18, v19, v20, v21, v22, v23, v24, v25, v26, v27])), (e0, .inl (ec, 120, .inl ef))]) [0, 1] rfl
          have hKc := hK.sub (tys' := [(ec, .int)]) [0] rfl
          refine vp_callSi (W.runV (As := [.ref (ad 17)]) (rest := []) ⟨hx, hb, hml, hown, hts⟩ (m_isWord l dC dI ad h0 17 v0 v1 v2 v3 v4 v5 v6 v7 v8 v9 e0 ts bg en so va v16 (.ref i0) v18 v19 v20 v21 v22 v23 v24 v25 v26 v27 ec ef (by decide) htm hlx) (cwV 1 hts g_m_kindTold_m_isWord_231 rfl rfl rfl (by decide +kernel) ⟨(Nat.le_of_ble_eq_true rfl), (Nat.le_of_ble_eq_true rfl)⟩) ⟨preST_blind, va_recv hKc hPc (ci := 7) (q0 := 0) rfl rfl, fun U hU hW => ⟨rfl, preS_at hU hW hPc hKc hev, sf_at hsf hS (fun _ h => h.elim) hU hW⟩⟩ rfl rfl hl.1 rfl (lv_room (Nat.le_of_ble_eq_true rfl)) dX9_kindTold_20 ⟨(Nat.le_of_ble_eq_true rfl), (Nat.le_of_ble_eq_true rfl)⟩) (fun r_29 hw => ?_)
          have hr_29 : r_29.toInt = 0 ∨ (r_29.toInt = 1 ∧ so.toInt = 1) := hw
          refine lv_if_eq (tgt := 30) hx hb dX9_kindTold_23 (by decide) (fun c_30 => ?_) (fun c_30 => ?_)
          · skip
            have tc_30 : r_29.toInt = 0 := (fa_eq _ _).mp c_30
            refine lv_iload_n hx hb dX9_kindTold_30 rfl (lv_at hl 1 rfl) ?_
            refine lv_istore_n (lv' := [(1, .int 3), (2, .int 4), (0, .ref h0)]) hx hb dX9_kindTold_31 rfl hl (by decide) rfl (fun ls hl => ?_)
            refine lv_iinc (v := 5) (lv' := [(2, .int 5), (1, .int 3), (0, .ref h0)]) hx hb dX9_kindTold_32 hl (k := 1) rfl (by decide) (by decide) rfl (fun ls hl => ?_)
            refine lv_goto (tgt := 4) hx hb dX9_kindTold_35 (by decide) ?_
            refine lv_iload_n hx hb dX9_kindTold_4 rfl (lv_at hl 0 rfl) ?_
            refine lv_aload_n hx hb dX9_kindTold_5 rfl (lv_at hl 2 rfl) ?_
            refine va_get (D := (dC, dI)) (ci := 7) (v := .ref i0) (C := RX9) (T := TX9) (N := 28) hx hb hts inX9 hown hK hP 0 rfl rfl 17 (by decide) (hts _ (List.mem_of_getElem? (i := 1) rfl)) (fun _ h9 => h9) rfl dX9_kindTold_6 ?_
            refine va_alen (v := 6) hx hb hK hP 2 1 rfl rfl rfl dX9_kindTold_9 ?_
            refine lv_icmp_ge (tgt := 38) hx hb dX9_kindTold_10 (by decide) (fun c => absurd c (by decide)) (fun _ => ?_)
            refine lv_aload_n hx hb dX9_kindTold_13 rfl (lv_at hl 2 rfl) ?_
            refine lv_aload_n hx hb dX9_kindTold_14 rfl (lv_at hl 2 rfl) ?_
            refine va_get (D := (dC, dI)) (ci := 7) (v := .ref i0) (C := RX9) (T := TX9) (N := 28) hx hb hts inX9 hown hK hP 0 rfl rfl 17 (by decide) (hts _ (List.mem_of_getElem? (i := 1) rfl)) (fun _ h9 => h9) rfl dX9_kindTold_15 ?_
            refine lv_iload_n hx hb dX9_kindTold_18 rfl (lv_at hl 0 rfl) ?_
            refine va_aldq hx hb hK hP 2 1 rfl rfl (vp_in_nI (n := 5) (by decide) (by decide)) dX9_kindTold_19 ?_
            refine pp_tv (y := .ref (ad 18)) (congrArg va_rf (hjf 5 (by decide))) ?_
            have hPc := hP.sub (ws' := [(h0, .inr (7, [v0, v1, v2, v3, v4, v5, v6, v7, v8, v9, .ref e0, .int ts, .int bg, .int en, .int so, .int va, v16, .ref i0, v18, v19, v20, v21, v22, v23, v24, v25, v26, v27])), (e0, .inl (ec, 120, .inl ef))]) [0, 1] rfl
            have hKc := hK.sub (tys' := [(ec, .int)]) [0] rfl
            refine vp_callSi (W.runV (As := [.ref (ad 18)]) (rest := []) ⟨hx, hb, hml, hown, hts⟩ (m_isWord l dC dI ad h0 18 v0 v1 v2 v3 v4 v5 v6 v7 v8 v9 e0 ts bg en so va v16 (.ref i0) v18 v19 v20 v21 v22 v23 v24 v25 v26 v27 ec ef (by decide) htm hlx) (cwV 1 hts g_m_kindTold_m_isWord_231 rfl rfl rfl (by decide +kernel) ⟨(Nat.le_of_ble_eq_true rfl), (Nat.le_of_ble_eq_true rfl)⟩) ⟨preST_blind, va_recv hKc hPc (ci := 7) (q0 := 0) rfl rfl, fun U hU hW => ⟨rfl, preS_at hU hW hPc hKc hev, sf_at hsf hS (fun _ h => h.elim) hU hW⟩⟩ rfl rfl hl.1 rfl (lv_room (Nat.le_of_ble_eq_true rfl)) dX9_kindTold_20 ⟨(Nat.le_of_ble_eq_true rfl), (Nat.le_of_ble_eq_true rfl)⟩) (fun r_31 hw => ?_)
            have hr_31 : r_31.toInt = 0 ∨ (r_31.toInt = 1 ∧ so.toInt = 1) := hw
            refine lv_if_eq (tgt := 30) hx hb dX9_kindTold_23 (by decide) (fun c_32 => ?_) (fun c_32 => ?_)
            · skip
              have tc_32 : r_31.toInt = 0 := (fa_eq _ _).mp c_32
              refine lv_iload_n hx hb dX9_kindTold_30 rfl (lv_at hl 1 rfl) ?_
              refine lv_istore_n (lv' := [(1, .int 3), (2, .int 5), (0, .ref h0)]) hx hb dX9_kindTold_31 rfl hl (by decide) rfl (fun ls hl => ?_)
              refine lv_iinc (v := 6) (lv' := [(2, .int 6), (1, .int 3), (0, .ref h0)]) hx hb dX9_kindTold_32 hl (k := 1) rfl (by decide) (by decide) rfl (fun ls hl => ?_)
              refine lv_goto (tgt := 4) hx hb dX9_kindTold_35 (by decide) ?_
              refine lv_iload_n hx hb dX9_kindTold_4 rfl (lv_at hl 0 rfl) ?_
              refine lv_aload_n hx hb dX9_kindTold_5 rfl (lv_at hl 2 rfl) ?_
              refine va_get (D := (dC, dI)) (ci := 7) (v := .ref i0) (C := RX9) (T := TX9) (N := 28) hx hb hts inX9 hown hK hP 0 rfl rfl 17 (by decide) (hts _ (List.mem_of_getElem? (i := 1) rfl)) (fun _ h9 => h9) rfl dX9_kindTold_6 ?_
              refine va_alen (v := 6) hx hb hK hP 2 1 rfl rfl rfl dX9_kindTold_9 ?_
              refine lv_icmp_ge (tgt := 38) hx hb dX9_kindTold_10 (by decide) (fun _ => ?_) (fun c => absurd (by decide) c)
              refine lv_iload_n hx hb dX9_kindTold_38 rfl (lv_at hl 1 rfl) ?_
              exact W.iret (v := (3 : Int32)) hx hb hr (fun t ht hW => ⟨(3 : Int32), rfl, (by first | omega | decide | (simp only [fa_lt, fa_le, fa_eq, and_true, true_and, and_false, false_and, not_true_eq_false, not_false_eq_true, li_0, li_1, li_2, li_3, li_4, li_5, li_6, li_7, li_8, li_9, li_10, li_12, li_15, li_16, li_20, li_30, li_34, li_38, li_40, li_63, li_64, li_65, li_78, li_120, li_1000, li_4000, li_10000, li_11077, li_255, li_65535, li_m1, li_m2, li_m1000000001, li_m1000000002, li_m1000000003, li_m1000000004, li_m1000000005, li_m1000000006, li_m1000000007, or_true, true_or, or_false, false_or, implies_true, true_implies, false_implies] <;> omega)), ht⟩) (fun _ h => absurd h List.not_mem_nil) dX9_kindTold_39
            · skip
              have tc_32 : ¬ r_31.toInt = 0 := fun h => c_32 ((fa_eq _ _).mpr h)
              refine lv_iload_n hx hb dX9_kindTold_26 rfl (lv_at hl 0 rfl) ?_
              refine lv_goto (tgt := 31) hx hb dX9_kindTold_27 (by decide) ?_
              refine lv_istore_n (lv' := [(1, .int 5), (2, .int 5), (0, .ref h0)]) hx hb dX9_kindTold_31 rfl hl (by decide) rfl (fun ls hl => ?_)
              refine lv_iinc (v := 6) (lv' := [(2, .int 6), (1, .int 5), (0, .ref h0)]) hx hb dX9_kindTold_32 hl (k := 1) rfl (by decide) (by decide) rfl (fun ls hl => ?_)
              refine lv_goto (tgt := 4) hx hb dX9_kindTold_35 (by decide) ?_
              refine lv_iload_n hx hb dX9_kindTold_4 rfl (lv_at hl 0 rfl) ?_
              refine lv_aload_n hx hb dX9_kindTold_5 rfl (lv_at hl 2 rfl) ?_
              refine va_get (D := (dC, dI)) (ci := 7) (v := .ref i0) (C := RX9) (T := TX9) (N := 28) hx hb hts inX9 hown hK hP 0 rfl rfl 17 (by decide) (hts _ (List.mem_of_getElem? (i := 1) rfl)) (fun _ h9 => h9) rfl dX9_kindTold_6 ?_
              refine va_alen (v := 6) hx hb hK hP 2 1 rfl rfl rfl dX9_kindTold_9 ?_
              refine lv_icmp_ge (tgt := 38) hx hb dX9_kindTold_10 (by decide) (fun _ => ?_) (fun c => absurd (by decide) c)
              refine lv_iload_n hx hb dX9_kindTold_38 rfl (lv_at hl 1 rfl) ?_
              exact W.iret (v := (5 : Int32)) hx hb hr (fun t ht hW => ⟨(5 : Int32), rfl, (by first | omega | decide | (simp only [fa_lt, fa_le, fa_eq, and_true, true_and, and_false, false_and, not_true_eq_false, not_false_eq_true, li_0, li_1, li_2, li_3, li_4, li_5, li_6, li_7, li_8, li_9, li_10, li_12, li_15, li_16, li_20, li_30, li_34, li_38, li_40, li_63, li_64, li_65, li_78, li_120, li_1000, li_4000, li_10000, li_11077, li_255, li_65535, li_m1, li_m2, li_m1000000001, li_m1000000002, li_m1000000003, li_m1000000004, li_m1000000005, li_m1000000006, li_m1000000007, or_true, true_or, or_false, false_or, implies_true, true_implies, false_implies] <;> omega)), ht⟩) (fun _ h => absurd h List.not_mem_nil) dX9_kindTold_39
          · skip
            have tc_30 : ¬ r_29.toInt = 0 := fun h => c_30 ((fa_eq _ _).mpr h)
            refine lv_iload_n hx hb dX9_kindTold_26 rfl (lv_at hl 0 rfl) ?_
            refine lv_goto (tgt := 31) hx hb dX9_kindTold_27 (by decide) ?_
            refine lv_istore_n (lv' := [(1, .int 4), (2, .int 4), (0, .ref h0)]) hx hb dX9_kindTold_31 rfl hl (by decide) rfl (fun ls hl => ?_)
            refine lv_iinc (v := 5) (lv' := [(2, .int 5), (1, .int 4), (0, .ref h0)]) hx hb dX9_kindTold_32 hl (k := 1) rfl (by decide) (by decide) rfl (fun ls hl => ?_)
            refine lv_goto (tgt := 4) hx hb dX9_kindTold_35 (by decide) ?_
            refine lv_iload_n hx hb dX9_kindTold_4 rfl (lv_at hl 0 rfl) ?_
            refine lv_aload_n hx hb dX9_kindTold_5 rfl (lv_at hl 2 rfl) ?_
            refine va_get (D := (dC, dI)) (ci := 7) (v := .ref i0) (C := RX9) (T := TX9) (N := 28) hx hb hts inX9 hown hK hP 0 rfl rfl 17 (by decide) (hts _ (List.mem_of_getElem? (i := 1) rfl)) (fun _ h9 => h9) rfl dX9_kindTold_6 ?_
            refine va_alen (v := 6) hx hb hK hP 2 1 rfl rfl rfl dX9_kindTold_9 ?_
            refine lv_icmp_ge (tgt := 38) hx hb dX9_kindTold_10 (by decide) (fun c => absurd c (by decide)) (fun _ => ?_)
            refine lv_aload_n hx hb dX9_kindTold_13 rfl (lv_at hl 2 rfl) ?_
            refine lv_aload_n hx hb dX9_kindTold_14 rfl (lv_at hl 2 rfl) ?_
            refine va_get (D := (dC, dI)) (ci := 7) (v := .ref i0) (C := RX9) (T := TX9) (N := 28) hx hb hts inX9 hown hK hP 0 rfl rfl 17 (by decide) (hts _ (List.mem_of_getElem? (i := 1) rfl)) (fun _ h9 => h9) rfl dX9_kindTold_15 ?_
            refine lv_iload_n hx hb dX9_kindTold_18 rfl (lv_at hl 0 rfl) ?_
            refine va_aldq hx hb hK hP 2 1 rfl rfl (vp_in_nI (n := 5) (by decide) (by decide)) dX9_kindTold_19 ?_
            refine pp_tv (y := .ref (ad 18)) (congrArg va_rf (hjf 5 (by decide))) ?_
            have hPc := hP.sub (ws' := [(h0, .inr (7, [v0, v1, v2, v3, v4, v5, v6, v7, v8, v9, .ref e0, .int ts, .int bg, .int en, .int so, .int va, v16, .ref i0, v18, v19, v20, v21, v22, v23, v24, v25, v26, v27])), (e0, .inl (ec, 120, .inl ef))]) [0, 1] rfl
            have hKc := hK.sub (tys' := [(ec, .int)]) [0] rfl
            refine vp_callSi (W.runV (As := [.ref (ad 18)]) (rest := []) ⟨hx, hb, hml, hown, hts⟩ (m_isWord l dC dI ad h0 18 v0 v1 v2 v3 v4 v5 v6 v7 v8 v9 e0 ts bg en so va v16 (.ref i0) v18 v19 v20 v21 v22 v23 v24 v25 v26 v27 ec ef (by decide) htm hlx) (cwV 1 hts g_m_kindTold_m_isWord_231 rfl rfl rfl (by decide +kernel) ⟨(Nat.le_of_ble_eq_true rfl), (Nat.le_of_ble_eq_true rfl)⟩) ⟨preST_blind, va_recv hKc hPc (ci := 7) (q0 := 0) rfl rfl, fun U hU hW => ⟨rfl, preS_at hU hW hPc hKc hev, sf_at hsf hS (fun _ h => h.elim) hU hW⟩⟩ rfl rfl hl.1 rfl (lv_room (Nat.le_of_ble_eq_true rfl)) dX9_kindTold_20 ⟨(Nat.le_of_ble_eq_true rfl), (Nat.le_of_ble_eq_true rfl)⟩) (fun r_33 hw => ?_)
            have hr_33 : r_33.toInt = 0 ∨ (r_33.toInt = 1 ∧ so.toInt = 1) := hw
            refine lv_if_eq (tgt := 30) hx hb dX9_kindTold_23 (by decide) (fun c_34 => ?_) (fun c_34 => ?_)
            · skip
              have tc_34 : r_33.toInt = 0 := (fa_eq _ _).mp c_34
              refine lv_iload_n hx hb dX9_kindTold_30 rfl (lv_at hl 1 rfl) ?_
              refine lv_istore_n (lv' := [(1, .int 4), (2, .int 5), (0, .ref h0)]) hx hb dX9_kindTold_31 rfl hl (by decide) rfl (fun ls hl => ?_)
              refine lv_iinc (v := 6) (lv' := [(2, .int 6), (1, .int 4), (0, .ref h0)]) hx hb dX9_kindTold_32 hl (k := 1) rfl (by decide) (by decide) rfl (fun ls hl => ?_)
              refine lv_goto (tgt := 4) hx hb dX9_kindTold_35 (by decide) ?_
              refine lv_iload_n hx hb dX9_kindTold_4 rfl (lv_at hl 0 rfl) ?_
              refine lv_aload_n hx hb dX9_kindTold_5 rfl (lv_at hl 2 rfl) ?_
              refine va_get (D := (dC, dI)) (ci := 7) (v := .ref i0) (C := RX9) (T := TX9) (N := 28) hx hb hts inX9 hown hK hP 0 rfl rfl 17 (by decide) (hts _ (List.mem_of_getElem? (i := 1) rfl)) (fun _ h9 => h9) rfl dX9_kindTold_6 ?_
              refine va_alen (v := 6) hx hb hK hP 2 1 rfl rfl rfl dX9_kindTold_9 ?_
              refine lv_icmp_ge (tgt := 38) hx hb dX9_kindTold_10 (by decide) (fun _ => ?_) (fun c => absurd (by decide) c)
              refine lv_iload_n hx hb dX9_kindTold_38 rfl (lv_at hl 1 rfl) ?_
              exact W.iret (v := (4 : Int32)) hx hb hr (fun t ht hW => ⟨(4 : Int32), rfl, (by first | omega | decide | (simp only [fa_lt, fa_le, fa_eq, and_true, true_and, and_false, false_and, not_true_eq_false, not_false_eq_true, li_0, li_1, li_2, li_3, li_4, li_5, li_6, li_7, li_8, li_9, li_10, li_12, li_15, li_16, li_20, li_30, li_34, li_38, li_40, li_63, li_64, li_65, li_78, li_120, li_1000, li_4000, li_10000, li_11077, li_255, li_65535, li_m1, li_m2, li_m1000000001, li_m1000000002, li_m1000000003, li_m1000000004, li_m1000000005, li_m1000000006, li_m1000000007, or_true, true_or, or_false, false_or, implies_true, true_implies, false_implies] <;> omega)), ht⟩) (fun _ h => absurd h List.not_mem_nil) dX9_kindTold_39
            · skip
              have tc_34 : ¬ r_33.toInt = 0 := fun h => c_34 ((fa_eq _ _).mpr h)
              refine lv_iload_n hx hb dX9_kindTold_26 rfl (lv_at hl 0 rfl) ?_
              refine lv_goto (tgt := 31) hx hb dX9_kindTold_27 (by decide) ?_
              refine lv_istore_n (lv' := [(1, .int 5), (2, .int 5), (0, .ref h0)]) hx hb dX9_kindTold_31 rfl hl (by decide) rfl (fun ls hl => ?_)
              refine lv_iinc (v := 6) (lv' := [(2, .int 6), (1, .int 5), (0, .ref h0)]) hx hb dX9_kindTold_32 hl (k := 1) rfl (by decide) (by decide) rfl (fun ls hl => ?_)
              refine lv_goto (tgt := 4) hx hb dX9_kindTold_35 (by decide) ?_
              refine lv_iload_n hx hb dX9_kindTold_4 rfl (lv_at hl 0 rfl) ?_
              refine lv_aload_n hx hb dX9_kindTold_5 rfl (lv_at hl 2 rfl) ?_
              refine va_get (D := (dC, dI)) (ci := 7) (v := .ref i0) (C := RX9) (T := TX9) (N := 28) hx hb hts inX9 hown hK hP 0 rfl rfl 17 (by decide) (hts _ (List.mem_of_getElem? (i := 1) rfl)) (fun _ h9 => h9) rfl dX9_kindTold_6 ?_
              refine va_alen (v := 6) hx hb hK hP 2 1 rfl rfl rfl dX9_kindTold_9 ?_
              refine lv_icmp_ge (tgt := 38) hx hb dX9_kindTold_10 (by decide) (fun _ => ?_) (fun c => absurd (by decide) c)
              refine lv_iload_n hx hb dX9_kindTold_38 rfl (lv_at hl 1 rfl) ?_
              exact W.iret (v := (5 : Int32)) hx hb hr (fun t ht hW => ⟨(5 : Int32), rfl, (by first | omega | decide | (simp only [fa_lt, fa_le, fa_eq, and_true, true_and, and_false, false_and, not_true_eq_false, not_false_eq_true, li_0, li_1, li_2, li_3, li_4, li_5, li_6, li_7, li_8, li_9, li_10, li_12, li_15, li_16, li_20, li_30, li_34, li_38, li_40, li_63, li_64, li_65, li_78, li_120, li_1000, li_4000, li_10000, li_11077, li_255, li_65535, li_m1, li_m2, li_m1000000001, li_m1000000002, li_m1000000003, li_m1000000004, li_m1000000005, li_m1000000006, li_m1000000007, or_true, true_or, or_false, false_or, implies_true, true_implies, false_implies] <;> omega)), ht⟩) (fun _ h => absurd h List.not_mem_nil) dX9_kindTold_39
    · skip
      have tc_4 : ¬ r_3.toInt = 0 := fun h => c_4 ((fa_eq _ _).mpr h)
      refine lv_iload_n hx hb dX9_kindTold_26 rfl (lv_at hl 0 rfl) ?_
      refine lv_goto (tgt := 31) hx hb dX9_kindTold_27 (by decide) ?_
      refine lv_istore_n (lv' := [(1, .int 1), (2, .int 1), (0, .ref h0)]) hx hb dX9_kindTold_31 rfl hl (by decide) rfl (fun ls hl => ?_)
      refine lv_iinc (v := 2) (lv' := [(2, .int 2), (1, .int 1), (0, .ref h0)]) hx hb dX9_kindTold_32 hl (k := 1) rfl (by decide) (by decide) rfl (fun ls hl => ?_)
      refine lv_goto (tgt := 4) hx hb dX9_kindTold_35 (by decide) ?_
      refine lv_iload_n hx hb dX9_kindTold_4 rfl (lv_at hl 0 rfl) ?_
      refine lv_aload_n hx hb dX9_kindTold_5 rfl (lv_at hl 2 rfl) ?_
      refine va_get (D := (dC, dI)) (ci := 7) (v := .ref i0) (C := RX9) (T := TX9) (N := 28) hx hb hts inX9 hown hK hP 0 rfl rfl 17 (by decide) (hts _ (List.mem_of_getElem? (i := 1) rfl)) (fun _ h9 => h9) rfl dX9_kindTold_6 ?_
      refine va_alen (v := 6) hx hb hK hP 2 1 rfl rfl rfl dX9_kindTold_9 ?_
      refine lv_icmp_ge (tgt := 38) hx hb dX9_kindTold_10 (by decide) (fun c => absurd c (by decide)) (fun _ => ?_)
      refine lv_aload_n hx hb dX9_kindTold_13 rfl (lv_at hl 2 rfl) ?_
      refine lv_aload_n hx hb dX9_kindTold_14 rfl (lv_at hl 2 rfl) ?_
      refine va_get (D := (dC, dI)) (ci := 7) (v := .ref i0) (C := RX9) (T := TX9) (N := 28) hx hb hts inX9 hown hK hP 0 rfl rfl 17 (by decide) (hts _ (List.mem_of_getElem? (i := 1) rfl)) (fun _ h9 => h9) rfl dX9_kindTold_15 ?_
      refine lv_iload_n hx hb dX9_kindTold_18 rfl (lv_at hl 0 rfl) ?_
      refine va_aldq hx hb hK hP 2 1 rfl rfl (vp_in_nI (n := 2) (by decide) (by decide)) dX9_kindTold_19 ?_
      refine pp_tv (y := .ref (ad 15)) (congrArg va_rf (hjf 2 (by decide))) ?_
      have hPc := hP.sub (ws' := [(h0, .inr (7, [v0, v1, v2, v3, v4, v5, v6, v7, v8, v9, .ref e0, .int ts, .int bg, .int en, .int so, .int va, v16, .ref i0, v18, v19, v20, v21, v22, v23, v24, v25, v26, v27])), (e0, .inl (ec, 120, .inl ef))]) [0, 1] rfl
      have hKc := hK.sub (tys' := [(ec, .int)]) [0] rfl
      refine vp_callSi (W.runV (As := [.ref (ad 15)]) (rest := []) ⟨hx, hb, hml, hown, hts⟩ (m_isWord l dC dI ad h0 15 v0 v1 v2 v3 v4 v5 v6 v7 v8 v9 e0 ts bg en so va v16 (.ref i0) v18 v19 v20 v21 v22 v23 v24 v25 v26 v27 ec ef (by decide) htm hlx) (cwV 1 hts g_m_kindTold_m_isWord_231 rfl rfl rfl (by decide +kernel) ⟨(Nat.le_of_ble_eq_true rfl), (Nat.le_of_ble_eq_true rfl)⟩) ⟨preST_blind, va_recv hKc hPc (ci := 7) (q0 := 0) rfl rfl, fun U hU hW => ⟨rfl, preS_at hU hW hPc hKc hev, sf_at hsf hS (fun _ h => h.elim) hU hW⟩⟩ rfl rfl hl.1 rfl (lv_room (Nat.le_of_ble_eq_true rfl)) dX9_kindTold_20 ⟨(Nat.le_of_ble_eq_true rfl), (Nat.le_of_ble_eq_true rfl)⟩) (fun r_35 hw => ?_)
      have hr_35 : r_35.toInt = 0 ∨ (r_35.toInt = 1 ∧ so.toInt = 1) := hw
      refine lv_if_eq (tgt := 30) hx hb dX9_kindTold_23 (by decide) (fun c_36 => ?_) (fun c_36 => ?_)
      · skip
        have tc_36 : r_35.toInt = 0 := (fa_eq _ _).mp c_36
        refine lv_iload_n hx hb dX9_kindTold_30 rfl (lv_at hl 1 rfl) ?_
        refine lv_istore_n (lv' := [(1, .int 1), (2, .int 2), (0, .ref h0)]) hx hb dX9_kindTold_31 rfl hl (by decide) rfl (fun ls hl => ?_)
        refine lv_iinc (v := 3) (lv' := [(2, .int 3), (1, .int 1), (0, .ref h0)]) hx hb dX9_kindTold_32 hl (k := 1) rfl (by decide) (by decide) rfl (fun ls hl => ?_)
        refine lv_goto (tgt := 4) hx hb dX9_kindTold_35 (by decide) ?_
        refine lv_iload_n hx hb dX9_kindTold_4 rfl (lv_at hl 0 rfl) ?_
        refine lv_aload_n hx hb dX9_kindTold_5 rfl (lv_at hl 2 rfl) ?_
        refine va_get (D := (dC, dI)) (ci := 7) (v := .ref i0) (C := RX9) (T := TX9) (N := 28) hx hb hts inX9 hown hK hP 0 rfl rfl 17 (by decide) (hts _ (List.mem_of_getElem? (i := 1) rfl)) (fun _ h9 => h9) rfl dX9_kindTold_6 ?_
        refine va_alen (v := 6) hx hb hK hP 2 1 rfl rfl rfl dX9_kindTold_9 ?_
        refine lv_icmp_ge (tgt := 38) hx hb dX9_kindTold_10 (by decide) (fun c => absurd c (by decide)) (fun _ => ?_)
        refine lv_aload_n hx hb dX9_kindTold_13 rfl (lv_at hl 2 rfl) ?_
        refine lv_aload_n hx hb dX9_kindTold_14 rfl (lv_at hl 2 rfl) ?_
        refine va_get (D := (dC, dI)) (ci := 7) (v := .ref i0) (C := RX9) (T := TX9) (N := 28) hx hb hts inX9 hown hK hP 0 rfl rfl 17 (by decide) (hts _ (List.mem_of_getElem? (i := 1) rfl)) (fun _ h9 => h9) rfl dX9_kindTold_15 ?_
        refine lv_iload_n hx hb dX9_kindTold_18 rfl (lv_at hl 0 rfl) ?_
        refine va_aldq hx hb hK hP 2 1 rfl rfl (vp_in_nI (n := 3) (by decide) (by decide)) dX9_kindTold_19 ?_
        refine pp_tv (y := .ref (ad 16)) (congrArg va_rf (hjf 3 (by decide))) ?_
        have hPc := hP.sub (ws' := [(h0, .inr (7, [v0, v1, v2, v3, v4, v5, v6, v7, v8, v9, .ref e0, .int ts, .int bg, .int en, .int so, .int va, v16, .ref i0, v18, v19, v20, v21, v22, v23, v24, v25, v26, v27])), (e0, .inl (ec, 120, .inl ef))]) [0, 1] rfl
        have hKc := hK.sub (tys' := [(ec, .int)]) [0] rfl
        refine vp_callSi (W.runV (As := [.ref (ad 16)]) (rest := []) ⟨hx, hb, hml, hown, hts⟩ (m_isWord l dC dI ad h0 16 v0 v1 v2 v3 v4 v5 v6 v7 v8 v9 e0 ts bg en so va v16 (.ref i0) v18 v19 v20 v21 v22 v23 v24 v25 v26 v27 ec ef (by decide) htm hlx) (cwV 1 hts g_m_kindTold_m_isWord_231 rfl rfl rfl (by decide +kernel) ⟨(Nat.le_of_ble_eq_true rfl), (Nat.le_of_ble_eq_true rfl)⟩) ⟨preST_blind, va_recv hKc hPc (ci := 7) (q0 := 0) rfl rfl, fun U hU hW => ⟨rfl, preS_at hU hW hPc hKc hev, sf_at hsf hS (fun _ h => h.elim) hU hW⟩⟩ rfl rfl hl.1 rfl (lv_room (Nat.le_of_ble_eq_true rfl)) dX9_kindTold_20 ⟨(Nat.le_of_ble_eq_true rfl), (Nat.le_of_ble_eq_true rfl)⟩) (fun r_37 hw => ?_)
        have hr_37 : r_37.toInt = 0 ∨ (r_37.toInt = 1 ∧ so.toInt = 1) := hw
        refine lv_if_eq (tgt := 30) hx hb dX9_kindTold_23 (by decide) (fun c_38 => ?_) (fun c_38 => ?_)
        · skip
          have tc_38 : r_37.toInt = 0 := (fa_eq _ _).mp c_38
          refine lv_iload_n hx hb dX9_kindTold_30 rfl (lv_at hl 1 rfl) ?_
          refine lv_istore_n (lv' := [(1, .int 1), (2, .int 3), (0, .ref h0)]) hx hb dX9_kindTold_31 rfl hl (by decide) rfl (fun ls hl => ?_)
          refine lv_iinc (v := 4) (lv' := [(2, .int 4), (1, .int 1), (0, .ref h0)]) hx hb dX9_kindTold_32 hl (k := 1) rfl (by decide) (by decide) rfl (fun ls hl => ?_)
          refine lv_goto (tgt := 4) hx hb dX9_kindTold_35 (by decide) ?_
          refine lv_iload_n hx hb dX9_kindTold_4 rfl (lv_at hl 0 rfl) ?_
          refine lv_aload_n hx hb dX9_kindTold_5 rfl (lv_at hl 2 rfl) ?_
          refine va_get (D := (dC, dI)) (ci := 7) (v := .ref i0) (C := RX9) (T := TX9) (N := 28) hx hb hts inX9 hown hK hP 0 rfl rfl 17 (by decide) (hts _ (List.mem_of_getElem? (i := 1) rfl)) (fun _ h9 => h9) rfl dX9_kindTold_6 ?_
          refine va_alen (v := 6) hx hb hK hP 2 1 rfl rfl rfl dX9_kindTold_9 ?_
          refine lv_icmp_ge (tgt := 38) hx hb dX9_kindTold_10 (by decide) (fun c => absurd c (by decide)) (fun _ => ?_)
          refine lv_aload_n hx hb dX9_kindTold_13 rfl (lv_at hl 2 rfl) ?_
          refine lv_aload_n hx hb dX9_kindTold_14 rfl (lv_at hl 2 rfl) ?_
          refine va_get (D := (dC, dI)) (ci := 7) (v := .ref i0) (C := RX9) (T := TX9) (N := 28) hx hb hts inX9 hown hK hP 0 rfl rfl 17 (by decide) (hts _ (List.mem_of_getElem? (i := 1) rfl)) (fun _ h9 => h9) rfl dX9_kindTold_15 ?_
          refine lv_iload_n hx hb dX9_kindTold_18 rfl (lv_at hl 0 rfl) ?_
          refine va_aldq hx hb hK hP 2 1 rfl rfl (vp_in_nI (n := 4) (by decide) (by decide)) dX9_kindTold_19 ?_
          refine pp_tv (y := .ref (ad 17)) (congrArg va_rf (hjf 4 (by decide))) ?_
          have hPc := hP.sub (ws' := [(h0, .inr (7, [v0, v1, v2, v3, v4, v5, v6, v7, v8, v9, .ref e0, .int ts, .int bg, .int en, .int so, .int va, v16, .ref i0, v18, v19, v20, v21, v22, v23, v24, v25, v26, v27])), (e0, .inl (ec, 120, .inl ef))]) [0, 1] rfl
          have hKc := hK.sub (tys' := [(ec, .int)]) [0] rfl
          refine vp_callSi (W.runV (As := [.ref (ad 17)]) (rest := []) ⟨hx, hb, hml, hown, hts⟩ (m_isWord l dC dI ad h0 17 v0 v1 v2 v3 v4 v5 v6 v7 v8 v9 e0 ts bg en so va v16 (.ref i0) v18 v19 v20 v21 v22 v23 v24 v25 v26 v27 ec ef (by decide) htm hlx) (cwV 1 hts g_m_kindTold_m_isWord_231 rfl rfl rfl (by decide +kernel) ⟨(Nat.le_of_ble_eq_true rfl), (Nat.le_of_ble_eq_true rfl)⟩) ⟨preST_blind, va_recv hKc hPc (ci := 7) (q0 := 0) rfl rfl, fun U hU hW => ⟨rfl, preS_at hU hW hPc hKc hev, sf_at hsf hS (fun _ h => h.elim) hU hW⟩⟩ rfl rfl hl.1 rfl (lv_room (Nat.le_of_ble_eq_true rfl)) dX9_kindTold_20 ⟨(Nat.le_of_ble_eq_true rfl), (Nat.le_of_ble_eq_true rfl)⟩) (fun r_39 hw => ?_)
          have hr_39 : r_39.toInt = 0 ∨ (r_39.toInt = 1 ∧ so.toInt = 1) := hw
          refine lv_if_eq (tgt := 30) hx hb dX9_kindTold_23 (by decide) (fun c_40 => ?_) (fun c_40 => ?_)
          · skip
            have tc_40 : r_39.toInt = 0 := (fa_eq _ _).mp c_40
            refine lv_iload_n hx hb dX9_kindTold_30 rfl (lv_at hl 1 rfl) ?_
            refine lv_istore_n (lv' := [(1, .int 1), (2, .int 4), (0, .ref h0)]) hx hb dX9_kindTold_31 rfl hl (by decide) rfl (fun ls hl => ?_)
            refine lv_iinc (v := 5) (lv' := [(2, .int 5), (1, .int 1), (0, .ref h0)]) hx hb dX9_kindTold_32 hl (k := 1) rfl (by decide) (by decide) rfl (fun ls hl => ?_)
            refine lv_goto (tgt := 4) hx hb dX9_kindTold_35 (by decide) ?_
            refine lv_iload_n hx hb dX9_kindTold_4 rfl (lv_at hl 0 rfl) ?_
            refine lv_aload_n hx hb dX9_kindTold_5 rfl (lv_at hl 2 rfl) ?_
            refine va_get (D := (dC, dI)) (ci := 7) (v := .ref i0) (C := RX9) (T := TX9) (N := 28) hx hb hts inX9 hown hK hP 0 rfl rfl 17 (by decide) (hts _ (List.mem_of_getElem? (i := 1) rfl)) (fun _ h9 => h9) rfl dX9_kindTold_6 ?_
            refine va_alen (v := 6) hx hb hK hP 2 1 rfl rfl rfl dX9_kindTold_9 ?_
            refine lv_icmp_ge (tgt := 38) hx hb dX9_kindTold_10 (by decide) (fun c => absurd c (by decide)) (fun _ => ?_)
            refine lv_aload_n hx hb dX9_kindTold_13 rfl (lv_at hl 2 rfl) ?_
            refine lv_aload_n hx hb dX9_kindTold_14 rfl (lv_at hl 2 rfl) ?_
            refine va_get (D := (dC, dI)) (ci := 7) (v := .ref i0) (C := RX9) (T := TX9) (N := 28) hx hb hts inX9 hown hK hP 0 rfl rfl 17 (by decide) (hts _ (List.mem_of_getElem? (i := 1) rfl)) (fun _ h9 => h9) rfl dX9_kindTold_15 ?_
            refine lv_iload_n hx hb dX9_kindTold_18 rfl (lv_at hl 0 rfl) ?_
            refine va_aldq hx hb hK hP 2 1 rfl rfl (vp_in_nI (n := 5) (by decide) (by decide)) dX9_kindTold_19 ?_
            refine pp_tv (y := .ref (ad 18)) (congrArg va_rf (hjf 5 (by decide))) ?_
            have hPc := hP.sub (ws' := [(h0, .inr (7, [v0, v1, v2, v3, v4, v5, v6, v7, v8, v9, .ref e0, .int ts, .int bg, .int en, .int so, .int va, v16, .ref i0, v18, v19, v20, v21, v22, v23, v24, v25, v26, v27])), (e0, .inl (ec, 120, .inl ef))]) [0, 1] rfl
            have hKc := hK.sub (tys' := [(ec, .int)]) [0] rfl
            refine vp_callSi (W.runV (As := [.ref (ad 18)]) (rest := []) ⟨hx, hb, hml, hown, hts⟩ (m_isWord l dC dI ad h0 18 v0 v1 v2 v3 v4 v5 v6 v7 v8 v9 e0 ts bg en so va v16 (.ref i0) v18 v19 v20 v21 v22 v23 v24 v25 v26 v27 ec ef (by decide) htm hlx) (cwV 1 hts g_m_kindTold_m_isWord_231 rfl rfl rfl (by decide +kernel) ⟨(Nat.le_of_ble_eq_true rfl), (Nat.le_of_ble_eq_true rfl)⟩) ⟨preST_blind, va_recv hKc hPc (ci := 7) (q0 := 0) rfl rfl, fun U hU hW => ⟨rfl, preS_at hU hW hPc hKc hev, sf_at hsf hS (fun _ h => h.elim) hU hW⟩⟩ rfl rfl hl.1 rfl (lv_room (Nat.le_of_ble_eq_true rfl)) dX9_kindTold_20 ⟨(Nat.le_of_ble_eq_true rfl), (Nat.le_of_ble_eq_true rfl)⟩) (fun r_41 hw => ?_)
            have hr_41 : r_41.toInt = 0 ∨ (r_41.toInt = 1 ∧ so.toInt = 1) := hw
            refine lv_if_eq (tgt := 30) hx hb dX9_kindTold_23 (by decide) (fun c_42 => ?_) (fun c_42 => ?_)
            · skip
              have tc_42 : r_41.toInt = 0 := (fa_eq _ _).mp c_42
              refine lv_iload_n hx hb dX9_kindTold_30 rfl (lv_at hl 1 rfl) ?_
              refine lv_istore_n (lv' := [(1, .int 1), (2, .int 5), (0, .ref h0)]) hx hb dX9_kindTold_31 rfl hl (by decide) rfl (fun ls hl => ?_)
              refine lv_iinc (v := 6) (lv' := [(2, .int 6), (1, .int 1), (0, .ref h0)]) hx hb dX9_kindTold_32 hl (k := 1) rfl (by decide) (by decide) rfl (fun ls hl => ?_)
              refine lv_goto (tgt := 4) hx hb dX9_kindTold_35 (by decide) ?_
              refine lv_iload_n hx hb dX9_kindTold_4 rfl (lv_at hl 0 rfl) ?_
              refine lv_aload_n hx hb dX9_kindTold_5 rfl (lv_at hl 2 rfl) ?_
              refine va_get (D := (dC, dI)) (ci := 7) (v := .ref i0) (C := RX9) (T := TX9) (N := 28) hx hb hts inX9 hown hK hP 0 rfl rfl 17 (by decide) (hts _ (List.mem_of_getElem? (i := 1) rfl)) (fun _ h9 => h9) rfl dX9_kindTold_6 ?_
              refine va_alen (v := 6) hx hb hK hP 2 1 rfl rfl rfl dX9_kindTold_9 ?_
              refine lv_icmp_ge (tgt := 38) hx hb dX9_kindTold_10 (by decide) (fun _ => ?_) (fun c => absurd (by decide) c)
              refine lv_iload_n hx hb dX9_kindTold_38 rfl (lv_at hl 1 rfl) ?_
              exact W.iret (v := (1 : Int32)) hx hb hr (fun t ht hW => ⟨(1 : Int32), rfl, (by first | omega | decide | (simp only [fa_lt, fa_le, fa_eq, and_true, true_and, and_false, false_and, not_true_eq_false, not_false_eq_true, li_0, li_1, li_2, li_3, li_4, li_5, li_6, li_7, li_8, li_9, li_10, li_12, li_15, li_16, li_20, li_30, li_34, li_38, li_40, li_63, li_64, li_65, li_78, li_120, li_1000, li_4000, li_10000, li_11077, li_255, li_65535, li_m1, li_m2, li_m1000000001, li_m1000000002, li_m1000000003, li_m1000000004, li_m1000000005, li_m1000000006, li_m1000000007, or_true, true_or, or_false, false_or, implies_true, true_implies, false_implies] <;> omega)), ht⟩) (fun _ h => absurd h List.not_mem_nil) dX9_kindTold_39
            · skip
              have tc_42 : ¬ r_41.toInt = 0 := fun h => c_42 ((fa_eq _ _).mpr h)
              refine lv_iload_n hx hb dX9_kindTold_26 rfl (lv_at hl 0 rfl) ?_
              refine lv_goto (tgt := 31) hx hb dX9_kindTold_27 (by decide) ?_
              refine lv_istore_n (lv' := [(1, .int 5), (2, .int 5), (0, .ref h0)]) hx hb dX9_kindTold_31 rfl hl (by decide) rfl (fun ls hl => ?_)
              refine lv_iinc (v := 6) (lv' := [(2, .int 6), (1, .int 5), (0, .ref h0)]) hx hb dX9_kindTold_32 hl (k := 1) rfl (by decide) (by decide) rfl (fun ls hl => ?_)
              refine lv_goto (tgt := 4) hx hb dX9_kindTold_35 (by decide) ?_
              refine lv_iload_n hx hb dX9_kindTold_4 rfl (lv_at hl 0 rfl) ?_
              refine lv_aload_n hx hb dX9_kindTold_5 rfl (lv_at hl 2 rfl) ?_
              refine va_get (D := (dC, dI)) (ci := 7) (v := .ref i0) (C := RX9) (T := TX9) (N := 28) hx hb hts inX9 hown hK hP 0 rfl rfl 17 (by decide) (hts _ (List.mem_of_getElem? (i := 1) rfl)) (fun _ h9 => h9) rfl dX9_kindTold_6 ?_
              refine va_alen (v := 6) hx hb hK hP 2 1 rfl rfl rfl dX9_kindTold_9 ?_
              refine lv_icmp_ge (tgt := 38) hx hb dX9_kindTold_10 (by decide) (fun _ => ?_) (fun c => absurd (by decide) c)
              refine lv_iload_n hx hb dX9_kindTold_38 rfl (lv_at hl 1 rfl) ?_
              exact W.iret (v := (5 : Int32)) hx hb hr (fun t ht hW => ⟨(5 : Int32), rfl, (by first | omega | decide | (simp only [fa_lt, fa_le, fa_eq, and_true, true_and, and_false, false_and, not_true_eq_false, not_false_eq_true, li_0, li_1, li_2, li_3, li_4, li_5, li_6, li_7, li_8, li_9, li_10, li_12, li_15, li_16, li_20, li_30, li_34, li_38, li_40, li_63, li_64, li_65, li_78, li_120, li_1000, li_4000, li_10000, li_11077, li_255, li_65535, li_m1, li_m2, li_m1000000001, li_m1000000002, li_m1000000003, li_m1000000004, li_m1000000005, li_m1000000006, li_m1000000007, or_true, true_or, or_false, false_or, implies_true, true_implies, false_implies] <;> omega)), ht⟩) (fun _ h => absurd h List.not_mem_nil) dX9_kindTold_39
          · skip
            have tc_40 : ¬ r_39.toInt = 0 := fun h => c_40 ((fa_eq _ _).mpr h)
            refine lv_iload_n hx hb dX9_kindTold_26 rfl (lv_at hl 0 rfl) ?_
            refine lv_goto (tgt := 31) hx hb dX9_kindTold_27 (by decide) ?_
            refine lv_istore_n (lv' := [(1, .int 4), (2, .int 4), (0, .ref h0)]) hx hb dX9_kindTold_31 rfl hl (by decide) rfl (fun ls hl => ?_)
            refine lv_iinc (v := 5) (lv' := [(2, .int 5), (1, .int 4), (0, .ref h0)]) hx hb dX9_kindTold_32 hl (k := 1) rfl (by decide) (by decide) rfl (fun ls hl => ?_)
            refine lv_goto (tgt := 4) hx hb dX9_kindTold_35 (by decide) ?_
            refine lv_iload_n hx hb dX9_kindTold_4 rfl (lv_at hl 0 rfl) ?_
            refine lv_aload_n hx hb dX9_kindTold_5 rfl (lv_at hl 2 rfl) ?_
            refine va_get (D := (dC, dI)) (ci := 7) (v := .ref i0) (C := RX9) (T := TX9) (N := 28) hx hb hts inX9 hown hK hP 0 rfl rfl 17 (by decide) (hts _ (List.mem_of_getElem? (i := 1) rfl)) (fun _ h9 => h9) rfl dX9_kindTold_6 ?_
            refine va_alen (v := 6) hx hb hK hP 2 1 rfl rfl rfl dX9_kindTold_9 ?_
            refine lv_icmp_ge (tgt := 38) hx hb dX9_kindTold_10 (by decide) (fun c => absurd c (by decide)) (fun _ => ?_)
            refine lv_aload_n hx hb dX9_kindTold_13 rfl (lv_at hl 2 rfl) ?_
            refine lv_aload_n hx hb dX9_kindTold_14 rfl (lv_at hl 2 rfl) ?_
            refine va_get (D := (dC, dI)) (ci := 7) (v := .ref i0) (C := RX9) (T := TX9) (N := 28) hx hb hts inX9 hown hK hP 0 rfl rfl 17 (by decide) (hts _ (List.mem_of_getElem? (i := 1) rfl)) (fun _ h9 => h9) rfl dX9_kindTold_15 ?_
            refine lv_iload_n hx hb dX9_kindTold_18 rfl (lv_at hl 0 rfl) ?_
            refine va_aldq hx hb hK hP 2 1 rfl rfl (vp_in_nI (n := 5) (by decide) (by decide)) dX9_kindTold_19 ?_
            refine pp_tv (y := .ref (ad 18)) (congrArg va_rf (hjf 5 (by decide))) ?_
            have hPc := hP.sub (ws' := [(h0, .inr (7, [v0, v1, v2, v3, v4, v5, v6, v7, v8, v9, .ref e0, .int ts, .int bg, .int en, .int so, .int va, v16, .ref i0, v18, v19, v20, v21, v22, v23, v24, v25, v26, v27])), (e0, .inl (ec, 120, .inl ef))]) [0, 1] rfl
            have hKc := hK.sub (tys' := [(ec, .int)]) [0] rfl
            refine vp_callSi (W.runV (As := [.ref (ad 18)]) (rest := []) ⟨hx, hb, hml, hown, hts⟩ (m_isWord l dC dI ad h0 18 v0 v1 v2 v3 v4 v5 v6 v7 v8 v9 e0 ts bg en so va v16 (.ref i0) v18 v19 v20 v21 v22 v23 v24 v25 v26 v27 ec ef (by decide) htm hlx) (cwV 1 hts g_m_kindTold_m_isWord_231 rfl rfl rfl (by decide +kernel) ⟨(Nat.le_of_ble_eq_true rfl), (Nat.le_of_ble_eq_true rfl)⟩) ⟨preST_blind, va_recv hKc hPc (ci := 7) (q0 := 0) rfl rfl, fun U hU hW => ⟨rfl, preS_at hU hW hPc hKc hev, sf_at hsf hS (fun _ h => h.elim) hU hW⟩⟩ rfl rfl hl.1 rfl (lv_room (Nat.le_of_ble_eq_true rfl)) dX9_kindTold_20 ⟨(Nat.le_of_ble_eq_true rfl), (Nat.le_of_ble_eq_true rfl)⟩) (fun r_43 hw => ?_)
            have hr_43 : r_43.toInt = 0 ∨ (r_43.toInt = 1 ∧ so.toInt = 1) := hw
            refine lv_if_eq (tgt := 30) hx hb dX9_kindTold_23 (by decide) (fun c_44 => ?_) (fun c_44 => ?_)
            · skip
              have tc_44 : r_43.toInt = 0 := (fa_eq _ _).mp c_44
              refine lv_iload_n hx hb dX9_kindTold_30 rfl (lv_at hl 1 rfl) ?_
              refine lv_istore_n (lv' := [(1, .int 4), (2, .int 5), (0, .ref h0)]) hx hb dX9_kindTold_31 rfl hl (by decide) rfl (fun ls hl => ?_)
              refine lv_iinc (v := 6) (lv' := [(2, .int 6), (1, .int 4), (0, .ref h0)]) hx hb dX9_kindTold_32 hl (k := 1) rfl (by decide) (by decide) rfl (fun ls hl => ?_)
              refine lv_goto (tgt := 4) hx hb dX9_kindTold_35 (by decide) ?_
              refine lv_iload_n hx hb dX9_kindTold_4 rfl (lv_at hl 0 rfl) ?_
              refine lv_aload_n hx hb dX9_kindTold_5 rfl (lv_at hl 2 rfl) ?_
              refine va_get (D := (dC, dI)) (ci := 7) (v := .ref i0) (C := RX9) (T := TX9) (N := 28) hx hb hts inX9 hown hK hP 0 rfl rfl 17 (by decide) (hts _ (List.mem_of_getElem? (i := 1) rfl)) (fun _ h9 => h9) rfl dX9_kindTold_6 ?_
              refine va_alen (v := 6) hx hb hK hP 2 1 rfl rfl rfl dX9_kindTold_9 ?_
              refine lv_icmp_ge (tgt := 38) hx hb dX9_kindTold_10 (by decide) (fun _ => ?_) (fun c => absurd (by decide) c)
              refine lv_iload_n hx hb dX9_kindTold_38 rfl (lv_at hl 1 rfl) ?_
              exact W.iret (v := (4 : Int32)) hx hb hr (fun t ht hW => ⟨(4 : Int32), rfl, (by first | omega | decide | (simp only [fa_lt, fa_le, fa_eq, and_true, true_and, and_false, false_and, not_true_eq_false, not_false_eq_true, li_0, li_1, li_2, li_3, li_4, li_5, li_6, li_7, li_8, li_9, li_10, li_12, li_15, li_16, li_20, li_30, li_34, li_38, li_40, li_63, li_64, li_65, li_78, li_120, li_1000, li_4000, li_10000, li_11077, li_255, li_65535, li_m1, li_m2, li_m1000000001, li_m1000000002, li_m1000000003, li_m1000000004, li_m1000000005, li_m1000000006, li_m1000000007, or_true, true_or, or_false, false_or, implies_true, true_implies, false_implies] <;> omega)), ht⟩) (fun _ h => absurd h List.not_mem_nil) dX9_kindTold_39
            · skip
              have tc_44 : ¬ r_43.toInt = 0 := fun h => c_44 ((fa_eq _ _).mpr h)
              refine lv_iload_n hx hb dX9_kindTold_26 rfl (lv_at hl 0 rfl) ?_
              refine lv_goto (tgt := 31) hx hb dX9_kindTold_27 (by decide) ?_
              refine lv_istore_n (lv' := [(1, .int 5), (2, .int 5), (0, .ref h0)]) hx hb dX9_kindTold_31 rfl hl (by decide) rfl (fun ls hl => ?_)
              refine lv_iinc (v := 6) (lv' := [(2, .int 6), (1, .int 5), (0, .ref h0)]) hx hb dX9_kindTold_32 hl (k := 1) rfl (by decide) (by decide) rfl (fun ls hl => ?_)
              refine lv_goto (tgt := 4) hx hb dX9_kindTold_35 (by decide) ?_
              refine lv_iload_n hx hb dX9_kindTold_4 rfl (lv_at hl 0 rfl) ?_
              refine lv_aload_n hx hb dX9_kindTold_5 rfl (lv_at hl 2 rfl) ?_
              refine va_get (D := (dC, dI)) (ci := 7) (v := .ref i0) (C := RX9) (T := TX9) (N := 28) hx hb hts inX9 hown hK hP 0 rfl rfl 17 (by decide) (hts _ (List.mem_of_getElem? (i := 1) rfl)) (fun _ h9 => h9) rfl dX9_kindTold_6 ?_
              refine va_alen (v := 6) hx hb hK hP 2 1 rfl rfl rfl dX9_kindTold_9 ?_
              refine lv_icmp_ge (tgt := 38) hx hb dX9_kindTold_10 (by decide) (fun _ => ?_) (fun c => absurd (by decide) c)
              refine lv_iload_n hx hb dX9_kindTold_38 rfl (lv_at hl 1 rfl) ?_
              exact W.iret (v := (5 : Int32)) hx hb hr (fun t ht hW => ⟨(5 : Int32), rfl, (by first | omega | decide | (simp only [fa_lt, fa_le, fa_eq, and_true, true_and, and_false, false_and, not_true_eq_false, not_false_eq_true, li_0, li_1, li_2, li_3, li_4, li_5, li_6, li_7, li_8, li_9, li_10, li_12, li_15, li_16, li_20, li_30, li_34, li_38, li_40, li_63, li_64, li_65, li_78, li_120, li_1000, li_4000, li_10000, li_11077, li_255, li_65535, li_m1, li_m2, li_m1000000001, li_m1000000002, li_m1000000003, li_m1000000004, li_m1000000005, li_m1000000006, li_m1000000007, or_true, true_or, or_false, false_or, implies_true, true_implies, false_implies] <;> omega)), ht⟩) (fun _ h => absurd h List.not_mem_nil) dX9_kindTold_39
        · skip
          have tc_38 : ¬ r_37.toInt = 0 := fun h => c_38 ((fa_eq _ _).mpr h)
          refine lv_iload_n hx hb dX9_kindTold_26 rfl (lv_at hl 0 rfl) ?_
          refine lv_goto (tgt := 31) hx hb dX9_kindTold_27 (by decide) ?_
          refine lv_istore_n (lv' := [(1, .int 3), (2, .int 3), (0, .ref h0)]) hx hb dX9_kindTold_31 rfl hl (by decide) rfl (fun ls hl => ?_)
          refine lv_iinc (v := 4) (lv' := [(2, .int 4), (1, .int 3), (0, .ref h0)]) hx hb dX9_kindTold_32 hl (k := 1) rfl (by decide) (by decide) rfl (fun ls hl => ?_)
          refine lv_goto (tgt := 4) hx hb dX9_kindTold_35 (by decide) ?_
          refine lv_iload_n hx hb dX9_kindTold_4 rfl (lv_at hl 0 rfl) ?_
          refine lv_aload_n hx hb dX9_kindTold_5 rfl (lv_at hl 2 rfl) ?_
          refine va_get (D := (dC, dI)) (ci := 7) (v := .ref i0) (C := RX9) (T := TX9) (N := 28) hx hb hts inX9 hown hK hP 0 rfl rfl 17 (by decide) (hts _ (List.mem_of_getElem? (i := 1) rfl)) (fun _ h9 => h9) rfl dX9_kindTold_6 ?_
          refine va_alen (v := 6) hx hb hK hP 2 1 rfl rfl rfl dX9_kindTold_9 ?_
          refine lv_icmp_ge (tgt := 38) hx hb dX9_kindTold_10 (by decide) (fun c => absurd c (by decide)) (fun _ => ?_)
          refine lv_aload_n hx hb dX9_kindTold_13 rfl (lv_at hl 2 rfl) ?_
          refine lv_aload_n hx hb dX9_kindTold_14 rfl (lv_at hl 2 rfl) ?_
          refine va_get (D := (dC, dI)) (ci := 7) (v := .ref i0) (C := RX9) (T := TX9) (N := 28) hx hb hts inX9 hown hK hP 0 rfl rfl 17 (by decide) (hts _ (List.mem_of_getElem? (i := 1) rfl)) (fun _ h9 => h9) rfl dX9_kindTold_15 ?_
          refine lv_iload_n hx hb dX9_kindTold_18 rfl (lv_at hl 0 rfl) ?_
          refine va_aldq hx hb hK hP 2 1 rfl rfl (vp_in_nI (n := 4) (by decide) (by decide)) dX9_kindTold_19 ?_
          refine pp_tv (y := .ref (ad 17)) (congrArg va_rf (hjf 4 (by decide))) ?_
          have hPc := hP.sub (ws' := [(h0, .inr (7, [v0, v1, v2, v3, v4, v5, v6, v7, v8, v9, .ref e0, .int ts, .int bg, .int en, .int so, .int va, v16, .ref i0, v18, v19, v20, v21, v22, v23, v24, v25, v26, v27])), (e0, .inl (ec, 120, .inl ef))]) [0, 1] rfl
          have hKc := hK.sub (tys' := [(ec, .int)]) [0] rfl
          refine vp_callSi (W.runV (As := [.ref (ad 17)]) (rest := []) ⟨hx, hb, hml, hown, hts⟩ (m_isWord l dC dI ad h0 17 v0 v1 v2 v3 v4 v5 v6 v7 v8 v9 e0 ts bg en so va v16 (.ref i0) v18 v19 v20 v21 v22 v23 v24 v25 v26 v27 ec ef (by decide) htm hlx) (cwV 1 hts g_m_kindTold_m_isWord_231 rfl rfl rfl (by decide +kernel) ⟨(Nat.le_of_ble_eq_true rfl), (Nat.le_of_ble_eq_true rfl)⟩) ⟨preST_blind, va_recv hKc hPc (ci := 7) (q0 := 0) rfl rfl, fun U hU hW => ⟨rfl, preS_at hU hW hPc hKc hev, sf_at hsf hS (fun _ h => h.elim) hU hW⟩⟩ rfl rfl hl.1 rfl (lv_room (Nat.le_of_ble_eq_true rfl)) dX9_kindTold_20 ⟨(Nat.le_of_ble_eq_true rfl), (Nat.le_of_ble_eq_true rfl)⟩) (fun r_45 hw => ?_)
          have hr_45 : r_45.toInt = 0 ∨ (r_45.toInt = 1 ∧ so.toInt = 1) := hw
          refine lv_if_eq (tgt := 30) hx hb dX9_kindTold_23 (by decide) (fun c_46 => ?_) (fun c_46 => ?_)
          · skip
            have tc_46 : r_45.toInt = 0 := (fa_eq _ _).mp c_46
            refine lv_iload_n hx hb dX9_kindTold_30 rfl (lv_at hl 1 rfl) ?_
            refine lv_istore_n (lv' := [(1, .int 3), (2, .int 4), (0, .ref h0)]) hx hb dX9_kindTold_31 rfl hl (by decide) rfl (fun ls hl => ?_)
            refine lv_iinc (v := 5) (lv' := [(2, .int 5), (1, .int 3), (0, .ref h0)]) hx hb dX9_kindTold_32 hl (k := 1) rfl (by decide) (by decide) rfl (fun ls hl => ?_)
            refine lv_goto (tgt := 4) hx hb dX9_kindTold_35 (by decide) ?_
            refine lv_iload_n hx hb dX9_kindTold_4 rfl (lv_at hl 0 rfl) ?_
            refine lv_aload_n hx hb dX9_kindTold_5 rfl (lv_at hl 2 rfl) ?_
            refine va_get (D := (dC, dI)) (ci := 7) (v := .ref i0) (C := RX9) (T := TX9) (N := 28) hx hb hts inX9 hown hK hP 0 rfl rfl 17 (by decide) (hts _ (List.mem_of_getElem? (i := 1) rfl)) (fun _ h9 => h9) rfl dX9_kindTold_6 ?_
            refine va_alen (v := 6) hx hb hK hP 2 1 rfl rfl rfl dX9_kindTold_9 ?_
            refine lv_icmp_ge (tgt := 38) hx hb dX9_kindTold_10 (by decide) (fun c => absurd c (by decide)) (fun _ => ?_)
            refine lv_aload_n hx hb dX9_kindTold_13 rfl (lv_at hl 2 rfl) ?_
            refine lv_aload_n hx hb dX9_kindTold_14 rfl (lv_at hl 2 rfl) ?_
            refine va_get (D := (dC, dI)) (ci := 7) (v := .ref i0) (C := RX9) (T := TX9) (N := 28) hx hb hts inX9 hown hK hP 0 rfl rfl 17 (by decide) (hts _ (List.mem_of_getElem? (i := 1) rfl)) (fun _ h9 => h9) rfl dX9_kindTold_15 ?_
            refine lv_iload_n hx hb dX9_kindTold_18 rfl (lv_at hl 0 rfl) ?_
            refine va_aldq hx hb hK hP 2 1 rfl rfl (vp_in_nI (n := 5) (by decide) (by decide)) dX9_kindTold_19 ?_
            refine pp_tv (y := .ref (ad 18)) (congrArg va_rf (hjf 5 (by decide))) ?_
            have hPc := hP.sub (ws' := [(h0, .inr (7, [v0, v1, v2, v3, v4, v5, v6, v7, v8, v9, .ref e0, .int ts, .int bg, .int en, .int so, .int va, v16, .ref i0, v18, v19, v20, v21, v22, v23, v24, v25, v26, v27])), (e0, .inl (ec, 120, .inl ef))]) [0, 1] rfl
            have hKc := hK.sub (tys' := [(ec, .int)]) [0] rfl
            refine vp_callSi (W.runV (As := [.ref (ad 18)]) (rest := []) ⟨hx, hb, hml, hown, hts⟩ (m_isWord l dC dI ad h0 18 v0 v1 v2 v3 v4 v5 v6 v7 v8 v9 e0 ts bg en so va v16 (.ref i0) v18 v19 v20 v21 v22 v23 v24 v25 v26 v27 ec ef (by decide) htm hlx) (cwV 1 hts g_m_kindTold_m_isWord_231 rfl rfl rfl (by decide +kernel) ⟨(Nat.le_of_ble_eq_true rfl), (Nat.le_of_ble_eq_true rfl)⟩) ⟨preST_blind, va_recv hKc hPc (ci := 7) (q0 := 0) rfl rfl, fun U hU hW => ⟨rfl, preS_at hU hW hPc hKc hev, sf_at hsf hS (fun _ h => h.elim) hU hW⟩⟩ rfl rfl hl.1 rfl (lv_room (Nat.le_of_ble_eq_true rfl)) dX9_kindTold_20 ⟨(Nat.le_of_ble_eq_true rfl), (Nat.le_of_ble_eq_true rfl)⟩) (fun r_47 hw => ?_)
            have hr_47 : r_47.toInt = 0 ∨ (r_47.toInt = 1 ∧ so.toInt = 1) := hw
            refine lv_if_eq (tgt := 30) hx hb dX9_kindTold_23 (by decide) (fun c_48 => ?_) (fun c_48 => ?_)
            · skip
              have tc_48 : r_47.toInt = 0 := (fa_eq _ _).mp c_48
              refine lv_iload_n hx hb dX9_kindTold_30 rfl (lv_at hl 1 rfl) ?_
              refine lv_istore_n (lv' := [(1, .int 3), (2, .int 5), (0, .ref h0)]) hx hb dX9_kindTold_31 rfl hl (by decide) rfl (fun ls hl => ?_)
              refine lv_iinc (v := 6) (lv' := [(2, .int 6), (1, .int 3), (0, .ref h0)]) hx hb dX9_kindTold_32 hl (k := 1) rfl (by decide) (by decide) rfl (fun ls hl => ?_)
              refine lv_goto (tgt := 4) hx hb dX9_kindTold_35 (by decide) ?_
              refine lv_iload_n hx hb dX9_kindTold_4 rfl (lv_at hl 0 rfl) ?_
              refine lv_aload_n hx hb dX9_kindTold_5 rfl (lv_at hl 2 rfl) ?_
              refine va_get (D := (dC, dI)) (ci := 7) (v := .ref i0) (C := RX9) (T := TX9) (N := 28) hx hb hts inX9 hown hK hP 0 rfl rfl 17 (by decide) (hts _ (List.mem_of_getElem? (i := 1) rfl)) (fun _ h9 => h9) rfl dX9_kindTold_6 ?_
              refine va_alen (v := 6) hx hb hK hP 2 1 rfl rfl rfl dX9_kindTold_9 ?_
              refine lv_icmp_ge (tgt := 38) hx hb dX9_kindTold_10 (by decide) (fun _ => ?_) (fun c => absurd (by decide) c)
              refine lv_iload_n hx hb dX9_kindTold_38 rfl (lv_at hl 1 rfl) ?_
              exact W.iret (v := (3 : Int32)) hx hb hr (fun t ht hW => ⟨(3 : Int32), rfl, (by first | omega | decide | (simp only [fa_lt, fa_le, fa_eq, and_true, true_and, and_false, false_and, not_true_eq_false, not_false_eq_true, li_0, li_1, li_2, li_3, li_4, li_5, li_6, li_7, li_8, li_9, li_10, li_12, li_15, li_16, li_20, li_30, li_34, li_38, li_40, li_63, li_64, li_65, li_78, li_120, li_1000, li_4000, li_10000, li_11077, li_255, li_65535, li_m1, li_m2, li_m1000000001, li_m1000000002, li_m1000000003, li_m1000000004, li_m1000000005, li_m1000000006, li_m1000000007, or_true, true_or, or_false, false_or, implies_true, true_implies, false_implies] <;> omega)), ht⟩) (fun _ h => absurd h List.not_mem_nil) dX9_kindTold_39
            · skip
              have tc_48 : ¬ r_47.toInt = 0 := fun h => c_48 ((fa_eq _ _).mpr h)
              refine lv_iload_n hx hb dX9_kindTold_26 rfl (lv_at hl 0 rfl) ?_
              refine lv_goto (tgt := 31) hx hb dX9_kindTold_27 (by decide) ?_
              refine lv_istore_n (lv' := [(1, .int 5), (2, .int 5), (0, .ref h0)]) hx hb dX9_kindTold_31 rfl hl (by decide) rfl (fun ls hl => ?_)
              refine lv_iinc (v := 6) (lv' := [(2, .int 6), (1, .int 5), (0, .ref h0)]) hx hb dX9_kindTold_32 hl (k := 1) rfl (by decide) (by decide) rfl (fun ls hl => ?_)
              refine lv_goto (tgt := 4) hx hb dX9_kindTold_35 (by decide) ?_
              refine lv_iload_n hx hb dX9_kindTold_4 rfl (lv_at hl 0 rfl) ?_
              refine lv_aload_n hx hb dX9_kindTold_5 rfl (lv_at hl 2 rfl) ?_
              refine va_get (D := (dC, dI)) (ci := 7) (v := .ref i0) (C := RX9) (T := TX9) (N := 28) hx hb hts inX9 hown hK hP 0 rfl rfl 17 (by decide) (hts _ (List.mem_of_getElem? (i := 1) rfl)) (fun _ h9 => h9) rfl dX9_kindTold_6 ?_
              refine va_alen (v := 6) hx hb hK hP 2 1 rfl rfl rfl dX9_kindTold_9 ?_
              refine lv_icmp_ge (tgt := 38) hx hb dX9_kindTold_10 (by decide) (fun _ => ?_) (fun c => absurd (by decide) c)
              refine lv_iload_n hx hb dX9_kindTold_38 rfl (lv_at hl 1 rfl) ?_
              exact W.iret (v := (5 : Int32)) hx hb hr (fun t ht hW => ⟨(5 : Int32), rfl, (by first | omega | decide | (simp only [fa_lt, fa_le, fa_eq, and_true, true_and, and_false, false_and, not_true_eq_false, not_false_eq_true, li_0, li_1, li_2, li_3, li_4, li_5, li_6, li_7, li_8, li_9, li_10, li_12, li_15, li_16, li_20, li_30, li_34, li_38, li_40, li_63, li_64, li_65, li_78, li_120, li_1000, li_4000, li_10000, li_11077, li_255, li_65535, li_m1, li_m2, li_m1000000001, li_m1000000002, li_m1000000003, li_m1000000004, li_m1000000005, li_m1000000006, li_m1000000007, or_true, true_or, or_false, false_or, implies_true, true_implies, false_implies] <;> omega)), ht⟩) (fun _ h => absurd h List.not_mem_nil) dX9_kindTold_39
          · skip
            have tc_46 : ¬ r_45.toInt = 0 := fun h => c_46 ((fa_eq _ _).mpr h)
            refine lv_iload_n hx hb dX9_kindTold_26 rfl (lv_at hl 0 rfl) ?_
            refine lv_goto (tgt := 31) hx hb dX9_kindTold_27 (by decide) ?_
            refine lv_istore_n (lv' := [(1, .int 4), (2, .int 4), (0, .ref h0)]) hx hb dX9_kindTold_31 rfl hl (by decide) rfl (fun ls hl => ?_)
            refine lv_iinc (v := 5) (lv' := [(2, .int 5), (1, .int 4), (0, .ref h0)]) hx hb dX9_kindTold_32 hl (k := 1) rfl (by decide) (by decide) rfl (fun ls hl => ?_)
            refine lv_goto (tgt := 4) hx hb dX9_kindTold_35 (by decide) ?_
            refine lv_iload_n hx hb dX9_kindTold_4 rfl (lv_at hl 0 rfl) ?_
            refine lv_aload_n hx hb dX9_kindTold_5 rfl (lv_at hl 2 rfl) ?_
            refine va_get (D := (dC, dI)) (ci := 7) (v := .ref i0) (C := RX9) (T := TX9) (N := 28) hx hb hts inX9 hown hK hP 0 rfl rfl 17 (by decide) (hts _ (List.mem_of_getElem? (i := 1) rfl)) (fun _ h9 => h9) rfl dX9_kindTold_6 ?_
            refine va_alen (v := 6) hx hb hK hP 2 1 rfl rfl rfl dX9_kindTold_9 ?_
            refine lv_icmp_ge (tgt := 38) hx hb dX9_kindTold_10 (by decide) (fun c => absurd c (by decide)) (fun _ => ?_)
            refine lv_aload_n hx hb dX9_kindTold_13 rfl (lv_at hl 2 rfl) ?_
            refine lv_aload_n hx hb dX9_kindTold_14 rfl (lv_at hl 2 rfl) ?_
            refine va_get (D := (dC, dI)) (ci := 7) (v := .ref i0) (C := RX9) (T := TX9) (N := 28) hx hb hts inX9 hown hK hP 0 rfl rfl 17 (by decide) (hts _ (List.mem_of_getElem? (i := 1) rfl)) (fun _ h9 => h9) rfl dX9_kindTold_15 ?_
            refine lv_iload_n hx hb dX9_kindTold_18 rfl (lv_at hl 0 rfl) ?_
            refine va_aldq hx hb hK hP 2 1 rfl rfl (vp_in_nI (n := 5) (by decide) (by decide)) dX9_kindTold_19 ?_
            refine pp_tv (y := .ref (ad 18)) (congrArg va_rf (hjf 5 (by decide))) ?_
            have hPc := hP.sub (ws' := [(h0, .inr (7, [v0, v1, v2, v3, v4, v5, v6, v7, v8, v9, .ref e0, .int ts, .int bg, .int en, .int so, .int va, v16, .ref i0, v18, v19, v20, v21, v22, v23, v24, v25, v26, v27])), (e0, .inl (ec, 120, .inl ef))]) [0, 1] rfl
            have hKc := hK.sub (tys' := [(ec, .int)]) [0] rfl
            refine vp_callSi (W.runV (As := [.ref (ad 18)]) (rest := []) ⟨hx, hb, hml, hown, hts⟩ (m_isWord l dC dI ad h0 18 v0 v1 v2 v3 v4 v5 v6 v7 v8 v9 e0 ts bg en so va v16 (.ref i0) v18 v19 v20 v21 v22 v23 v24 v25 v26 v27 ec ef (by decide) htm hlx) (cwV 1 hts g_m_kindTold_m_isWord_231 rfl rfl rfl (by decide +kernel) ⟨(Nat.le_of_ble_eq_true rfl), (Nat.le_of_ble_eq_true rfl)⟩) ⟨preST_blind, va_recv hKc hPc (ci := 7) (q0 := 0) rfl rfl, fun U hU hW => ⟨rfl, preS_at hU hW hPc hKc hev, sf_at hsf hS (fun _ h => h.elim) hU hW⟩⟩ rfl rfl hl.1 rfl (lv_room (Nat.le_of_ble_eq_true rfl)) dX9_kindTold_20 ⟨(Nat.le_of_ble_eq_true rfl), (Nat.le_of_ble_eq_true rfl)⟩) (fun r_49 hw => ?_)
            have hr_49 : r_49.toInt = 0 ∨ (r_49.toInt = 1 ∧ so.toInt = 1) := hw
            refine lv_if_eq (tgt := 30) hx hb dX9_kindTold_23 (by decide) (fun c_50 => ?_) (fun c_50 => ?_)
            · skip
              have tc_50 : r_49.toInt = 0 := (fa_eq _ _).mp c_50
              refine lv_iload_n hx hb dX9_kindTold_30 rfl (lv_at hl 1 rfl) ?_
              refine lv_istore_n (lv' := [(1, .int 4), (2, .int 5), (0, .ref h0)]) hx hb dX9_kindTold_31 rfl hl (by decide) rfl (fun ls hl => ?_)
              refine lv_iinc (v := 6) (lv' := [(2, .int 6), (1, .int 4), (0, .ref h0)]) hx hb dX9_kindTold_32 hl (k := 1) rfl (by decide) (by decide) rfl (fun ls hl => ?_)
              refine lv_goto (tgt := 4) hx hb dX9_kindTold_35 (by decide) ?_
              refine lv_iload_n hx hb dX9_kindTold_4 rfl (lv_at hl 0 rfl) ?_
              refine lv_aload_n hx hb dX9_kindTold_5 rfl (lv_at hl 2 rfl) ?_
              refine va_get (D := (dC, dI)) (ci := 7) (v := .ref i0) (C := RX9) (T := TX9) (N := 28) hx hb hts inX9 hown hK hP 0 rfl rfl 17 (by decide) (hts _ (List.mem_of_getElem? (i := 1) rfl)) (fun _ h9 => h9) rfl dX9_kindTold_6 ?_
              refine va_alen (v := 6) hx hb hK hP 2 1 rfl rfl rfl dX9_kindTold_9 ?_
              refine lv_icmp_ge (tgt := 38) hx hb dX9_kindTold_10 (by decide) (fun _ => ?_) (fun c => absurd (by decide) c)
              refine lv_iload_n hx hb dX9_kindTold_38 rfl (lv_at hl 1 rfl) ?_
              exact W.iret (v := (4 : Int32)) hx hb hr (fun t ht hW => ⟨(4 : Int32), rfl, (by first | omega | decide | (simp only [fa_lt, fa_le, fa_eq, and_true, true_and, and_false, false_and, not_true_eq_false, not_false_eq_true, li_0, li_1, li_2, li_3, li_4, li_5, li_6, li_7, li_8, li_9, li_10, li_12, li_15, li_16, li_20, li_30, li_34, li_38, li_40, li_63, li_64, li_65, li_78, li_120, li_1000, li_4000, li_10000, li_11077, li_255, li_65535, li_m1, li_m2, li_m1000000001, li_m1000000002, li_m1000000003, li_m1000000004, li_m1000000005, li_m1000000006, li_m1000000007, or_true, true_or, or_false, false_or, implies_true, true_implies, false_implies] <;> omega)), ht⟩) (fun _ h => absurd h List.not_mem_nil) dX9_kindTold_39
            · skip
              have tc_50 : ¬ r_49.toInt = 0 := fun h => c_50 ((fa_eq _ _).mpr h)
              refine lv_iload_n hx hb dX9_kindTold_26 rfl (lv_at hl 0 rfl) ?_
              refine lv_goto (tgt := 31) hx hb dX9_kindTold_27 (by decide) ?_
              refine lv_istore_n (lv' := [(1, .int 5), (2, .int 5), (0, .ref h0)]) hx hb dX9_kindTold_31 rfl hl (by decide) rfl (fun ls hl => ?_)
              refine lv_iinc (v := 6) (lv' := [(2, .int 6), (1, .int 5), (0, .ref h0)]) hx hb dX9_kindTold_32 hl (k := 1) rfl (by decide) (by decide) rfl (fun ls hl => ?_)
              refine lv_goto (tgt := 4) hx hb dX9_kindTold_35 (by decide) ?_
              refine lv_iload_n hx hb dX9_kindTold_4 rfl (lv_at hl 0 rfl) ?_
              refine lv_aload_n hx hb dX9_kindTold_5 rfl (lv_at hl 2 rfl) ?_
              refine va_get (D := (dC, dI)) (ci := 7) (v := .ref i0) (C := RX9) (T := TX9) (N := 28) hx hb hts inX9 hown hK hP 0 rfl rfl 17 (by decide) (hts _ (List.mem_of_getElem? (i := 1) rfl)) (fun _ h9 => h9) rfl dX9_kindTold_6 ?_
              refine va_alen (v := 6) hx hb hK hP 2 1 rfl rfl rfl dX9_kindTold_9 ?_
              refine lv_icmp_ge (tgt := 38) hx hb dX9_kindTold_10 (by decide) (fun _ => ?_) (fun c => absurd (by decide) c)
              refine lv_iload_n hx hb dX9_kindTold_38 rfl (lv_at hl 1 rfl) ?_
              exact W.iret (v := (5 : Int32)) hx hb hr (fun t ht hW => ⟨(5 : Int32), rfl, (by first | omega | decide | (simp only [fa_lt, fa_le, fa_eq, and_true, true_and, and_false, false_and, not_true_eq_false, not_false_eq_true, li_0, li_1, li_2, li_3, li_4, li_5, li_6, li_7, li_8, li_9, li_10, li_12, li_15, li_16, li_20, li_30, li_34, li_38, li_40, li_63, li_64, li_65, li_78, li_120, li_1000, li_4000, li_10000, li_11077, li_255, li_65535, li_m1, li_m2, li_m1000000001, li_m1000000002, li_m1000000003, li_m1000000004, li_m1000000005, li_m1000000006, li_m1000000007, or_true, true_or, or_false, false_or, implies_true, true_implies, false_implies] <;> omega)), ht⟩) (fun _ h => absurd h List.not_mem_nil) dX9_kindTold_39
      · skip
        have tc_36 : ¬ r_35.toInt = 0 := fun h => c_36 ((fa_eq _ _).mpr h)
        refine lv_iload_n hx hb dX9_kindTold_26 rfl (lv_at hl 0 rfl) ?_
        refine lv_goto (tgt := 31) hx hb dX9_kindTold_27 (by decide) ?_
        refine lv_istore_n (lv' := [(1, .int 2), (2, .int 2), (0, .ref h0)]) hx hb dX9_kindTold_31 rfl hl (by decide) rfl (fun ls hl => ?_)
        refine lv_iinc (v := 3) (lv' := [(2, .int 3), (1, .int 2), (0, .ref h0)]) hx hb dX9_kindTold_32 hl (k := 1) rfl (by decide) (by decide) rfl (fun ls hl => ?_)
        refine lv_goto (tgt := 4) hx hb dX9_kindTold_35 (by decide) ?_
        refine lv_iload_n hx hb dX9_kindTold_4 rfl (lv_at hl 0 rfl) ?_
        refine lv_aload_n hx hb dX9_kindTold_5 rfl (lv_at hl 2 rfl) ?_
        refine va_get (D := (dC, dI)) (ci := 7) (v := .ref i0) (C := RX9) (T := TX9) (N := 28) hx hb hts inX9 hown hK hP 0 rfl rfl 17 (by decide) (hts _ (List.mem_of_getElem? (i := 1) rfl)) (fun _ h9 => h9) rfl dX9_kindTold_6 ?_
        refine va_alen (v := 6) hx hb hK hP 2 1 rfl rfl rfl dX9_kindTold_9 ?_
        refine lv_icmp_ge (tgt := 38) hx hb dX9_kindTold_10 (by decide) (fun c => absurd c (by decide)) (fun _ => ?_)
        refine lv_aload_n hx hb dX9_kindTold_13 rfl (lv_at hl 2 rfl) ?_
        refine lv_aload_n hx hb dX9_kindTold_14 rfl (lv_at hl 2 rfl) ?_
        refine va_get (D := (dC, dI)) (ci := 7) (v := .ref i0) (C := RX9) (T := TX9) (N := 28) hx hb hts inX9 hown hK hP 0 rfl rfl 17 (by decide) (hts _ (List.mem_of_getElem? (i := 1) rfl)) (fun _ h9 => h9) rfl dX9_kindTold_15 ?_
        refine lv_iload_n hx hb dX9_kindTold_18 rfl (lv_at hl 0 rfl) ?_
        refine va_aldq hx hb hK hP 2 1 rfl rfl (vp_in_nI (n := 3) (by decide) (by decide)) dX9_kindTold_19 ?_
        refine pp_tv (y := .ref (ad 16)) (congrArg va_rf (hjf 3 (by decide))) ?_
        have hPc := hP.sub (ws' := [(h0, .inr (7, [v0, v1, v2, v3, v4, v5, v6, v7, v8, v9, .ref e0, .int ts, .int bg, .int en, .int so, .int va, v16, .ref i0, v18, v19, v20, v21, v22, v23, v24, v25, v26, v27])), (e0, .inl (ec, 120, .inl ef))]) [0, 1] rfl
        have hKc := hK.sub (tys' := [(ec, .int)]) [0] rfl
        refine vp_callSi (W.runV (As := [.ref (ad 16)]) (rest := []) ⟨hx, hb, hml, hown, hts⟩ (m_isWord l dC dI ad h0 16 v0 v1 v2 v3 v4 v5 v6 v7 v8 v9 e0 ts bg en so va v16 (.ref i0) v18 v19 v20 v21 v22 v23 v24 v25 v26 v27 ec ef (by decide) htm hlx) (cwV 1 hts g_m_kindTold_m_isWord_231 rfl rfl rfl (by decide +kernel) ⟨(Nat.le_of_ble_eq_true rfl), (Nat.le_of_ble_eq_true rfl)⟩) ⟨preST_blind, va_recv hKc hPc (ci := 7) (q0 := 0) rfl rfl, fun U hU hW => ⟨rfl, preS_at hU hW hPc hKc hev, sf_at hsf hS (fun _ h => h.elim) hU hW⟩⟩ rfl rfl hl.1 rfl (lv_room (Nat.le_of_ble_eq_true rfl)) dX9_kindTold_20 ⟨(Nat.le_of_ble_eq_true rfl), (Nat.le_of_ble_eq_true rfl)⟩) (fun r_51 hw => ?_)
        have hr_51 : r_51.toInt = 0 ∨ (r_51.toInt = 1 ∧ so.toInt = 1) := hw
        refine lv_if_eq (tgt := 30) hx hb dX9_kindTold_23 (by decide) (fun c_52 => ?_) (fun c_52 => ?_)
        · skip
          have tc_52 : r_51.toInt = 0 := (fa_eq _ _).mp c_52
          refine lv_iload_n hx hb dX9_kindTold_30 rfl (lv_at hl 1 rfl) ?_
          refine lv_istore_n (lv' := [(1, .int 2), (2, .int 3), (0, .ref h0)]) hx hb dX9_kindTold_31 rfl hl (by decide) rfl (fun ls hl => ?_)
          refine lv_iinc (v := 4) (lv' := [(2, .int 4), (1, .int 2), (0, .ref h0)]) hx hb dX9_kindTold_32 hl (k := 1) rfl (by decide) (by decide) rfl (fun ls hl => ?_)
          refine lv_goto (tgt := 4) hx hb dX9_kindTold_35 (by decide) ?_
          refine lv_iload_n hx hb dX9_kindTold_4 rfl (lv_at hl 0 rfl) ?_
          refine lv_aload_n hx hb dX9_kindTold_5 rfl (lv_at hl 2 rfl) ?_
          refine va_get (D := (dC, dI)) (ci := 7) (v := .ref i0) (C := RX9) (T := TX9) (N := 28) hx hb hts inX9 hown hK hP 0 rfl rfl 17 (by decide) (hts _ (List.mem_of_getElem? (i := 1) rfl)) (fun _ h9 => h9) rfl dX9_kindTold_6 ?_
          refine va_alen (v := 6) hx hb hK hP 2 1 rfl rfl rfl dX9_kindTold_9 ?_
          refine lv_icmp_ge (tgt := 38) hx hb dX9_kindTold_10 (by decide) (fun c => absurd c (by decide)) (fun _ => ?_)
          refine lv_aload_n hx hb dX9_kindTold_13 rfl (lv_at hl 2 rfl) ?_
          refine lv_aload_n hx hb dX9_kindTold_14 rfl (lv_at hl 2 rfl) ?_
          refine va_get (D := (dC, dI)) (ci := 7) (v := .ref i0) (C := RX9) (T := TX9) (N := 28) hx hb hts inX9 hown hK hP 0 rfl rfl 17 (by decide) (hts _ (List.mem_of_getElem? (i := 1) rfl)) (fun _ h9 => h9) rfl dX9_kindTold_15 ?_
          refine lv_iload_n hx hb dX9_kindTold_18 rfl (lv_at hl 0 rfl) ?_
          refine va_aldq hx hb hK hP 2 1 rfl rfl (vp_in_nI (n := 4) (by decide) (by decide)) dX9_kindTold_19 ?_
          refine pp_tv (y := .ref (ad 17)) (congrArg va_rf (hjf 4 (by decide))) ?_
          have hPc := hP.sub (ws' := [(h0, .inr (7, [v0, v1, v2, v3, v4, v5, v6, v7, v8, v9, .ref e0, .int ts, .int bg, .int en, .int so, .int va, v16, .ref i0, v18, v19, v20, v21, v22, v23, v24, v25, v26, v27])), (e0, .inl (ec, 120, .inl ef))]) [0, 1] rfl
          have hKc := hK.sub (tys' := [(ec, .int)]) [0] rfl
          refine vp_callSi (W.runV (As := [.ref (ad 17)]) (rest := []) ⟨hx, hb, hml, hown, hts⟩ (m_isWord l dC dI ad h0 17 v0 v1 v2 v3 v4 v5 v6 v7 v8 v9 e0 ts bg en so va v16 (.ref i0) v18 v19 v20 v21 v22 v23 v24 v25 v26 v27 ec ef (by decide) htm hlx) (cwV 1 hts g_m_kindTold_m_isWord_231 rfl rfl rfl (by decide +kernel) ⟨(Nat.le_of_ble_eq_true rfl), (Nat.le_of_ble_eq_true rfl)⟩) ⟨preST_blind, va_recv hKc hPc (ci := 7) (q0 := 0) rfl rfl, fun U hU hW => ⟨rfl, preS_at hU hW hPc hKc hev, sf_at hsf hS (fun _ h => h.elim) hU hW⟩⟩ rfl rfl hl.1 rfl (lv_room (Nat.le_of_ble_eq_true rfl)) dX9_kindTold_20 ⟨(Nat.le_of_ble_eq_true rfl), (Nat.le_of_ble_eq_true rfl)⟩) (fun r_53 hw => ?_)
          have hr_53 : r_53.toInt = 0 ∨ (r_53.toInt = 1 ∧ so.toInt = 1) := hw
          refine lv_if_eq (tgt := 30) hx hb dX9_kindTold_23 (by decide) (fun c_54 => ?_) (fun c_54 => ?_)
          · skip
            have tc_54 : r_53.toInt = 0 := (fa_eq _ _).mp c_54
            refine lv_iload_n hx hb dX9_kindTold_30 rfl (lv_at hl 1 rfl) ?_
            refine lv_istore_n (lv' := [(1, .int 2), (2, .int 4), (0, .ref h0)]) hx hb dX9_kindTold_31 rfl hl (by decide) rfl (fun ls hl => ?_)
            refine lv_iinc (v := 5) (lv' := [(2, .int 5), (1, .int 2), (0, .ref h0)]) hx hb dX9_kindTold_32 hl (k := 1) rfl (by decide) (by decide) rfl (fun ls hl => ?_)
            refine lv_goto (tgt := 4) hx hb dX9_kindTold_35 (by decide) ?_
            refine lv_iload_n hx hb dX9_kindTold_4 rfl (lv_at hl 0 rfl) ?_
            refine lv_aload_n hx hb dX9_kindTold_5 rfl (lv_at hl 2 rfl) ?_
            refine va_get (D := (dC, dI)) (ci := 7) (v := .ref i0) (C := RX9) (T := TX9) (N := 28) hx hb hts inX9 hown hK hP 0 rfl rfl 17 (by decide) (hts _ (List.mem_of_getElem? (i := 1) rfl)) (fun _ h9 => h9) rfl dX9_kindTold_6 ?_
            refine va_alen (v := 6) hx hb hK hP 2 1 rfl rfl rfl dX9_kindTold_9 ?_
            refine lv_icmp_ge (tgt := 38) hx hb dX9_kindTold_10 (by decide) (fun c => absurd c (by decide)) (fun _ => ?_)
            refine lv_aload_n hx hb dX9_kindTold_13 rfl (lv_at hl 2 rfl) ?_
            refine lv_aload_n hx hb dX9_kindTold_14 rfl (lv_at hl 2 rfl) ?_
            refine va_get (D := (dC, dI)) (ci := 7) (v := .ref i0) (C := RX9) (T := TX9) (N := 28) hx hb hts inX9 hown hK hP 0 rfl rfl 17 (by decide) (hts _ (List.mem_of_getElem? (i := 1) rfl)) (fun _ h9 => h9) rfl dX9_kindTold_15 ?_
            refine lv_iload_n hx hb dX9_kindTold_18 rfl (lv_at hl 0 rfl) ?_
            refine va_aldq hx hb hK hP 2 1 rfl rfl (vp_in_nI (n := 5) (by decide) (by decide)) dX9_kindTold_19 ?_
            refine pp_tv (y := .ref (ad 18)) (congrArg va_rf (hjf 5 (by decide))) ?_
            have hPc := hP.sub (ws' := [(h0, .inr (7, [v0, v1, v2, v3, v4, v5, v6, v7, v8, v9, .ref e0, .int ts, .int bg, .int en, .int so, .int va, v16, .ref i0, v18, v19, v20, v21, v22, v23, v24, v25, v26, v27])), (e0, .inl (ec, 120, .inl ef))]) [0, 1] rfl
            have hKc := hK.sub (tys' := [(ec, .int)]) [0] rfl
            refine vp_callSi (W.runV (As := [.ref (ad 18)]) (rest := []) ⟨hx, hb, hml, hown, hts⟩ (m_isWord l dC dI ad h0 18 v0 v1 v2 v3 v4 v5 v6 v7 v8 v9 e0 ts bg en so va v16 (.ref i0) v18 v19 v20 v21 v22 v23 v24 v25 v26 v27 ec ef (by decide) htm hlx) (cwV 1 hts g_m_kindTold_m_isWord_231 rfl rfl rfl (by decide +kernel) ⟨(Nat.le_of_ble_eq_true rfl), (Nat.le_of_ble_eq_true rfl)⟩) ⟨preST_blind, va_recv hKc hPc (ci := 7) (q0 := 0) rfl rfl, fun U hU hW => ⟨rfl, preS_at hU hW hPc hKc hev, sf_at hsf hS (fun _ h => h.elim) hU hW⟩⟩ rfl rfl hl.1 rfl (lv_room (Nat.le_of_ble_eq_true rfl)) dX9_kindTold_20 ⟨(Nat.le_of_ble_eq_true rfl), (Nat.le_of_ble_eq_true rfl)⟩) (fun r_55 hw => ?_)
            have hr_55 : r_55.toInt = 0 ∨ (r_55.toInt = 1 ∧ so.toInt = 1) := hw
            refine lv_if_eq (tgt := 30) hx hb dX9_kindTold_23 (by decide) (fun c_56 => ?_) (fun c_56 => ?_)
            · skip
              have tc_56 : r_55.toInt = 0 := (fa_eq _ _).mp c_56
              refine lv_iload_n hx hb dX9_kindTold_30 rfl (lv_at hl 1 rfl) ?_
              refine lv_istore_n (lv' := [(1, .int 2), (2, .int 5), (0, .ref h0)]) hx hb dX9_kindTold_31 rfl hl (by decide) rfl (fun ls hl => ?_)
              refine lv_iinc (v := 6) (lv' := [(2, .int 6), (1, .int 2), (0, .ref h0)]) hx hb dX9_kindTold_32 hl (k := 1) rfl (by decide) (by decide) rfl (fun ls hl => ?_)
              refine lv_goto (tgt := 4) hx hb dX9_kindTold_35 (by decide) ?_
              refine lv_iload_n hx hb dX9_kindTold_4 rfl (lv_at hl 0 rfl) ?_
              refine lv_aload_n hx hb dX9_kindTold_5 rfl (lv_at hl 2 rfl) ?_
              refine va_get (D := (dC, dI)) (ci := 7) (v := .ref i0) (C := RX9) (T := TX9) (N := 28) hx hb hts inX9 hown hK hP 0 rfl rfl 17 (by decide) (hts _ (List.mem_of_getElem? (i := 1) rfl)) (fun _ h9 => h9) rfl dX9_kindTold_6 ?_
              refine va_alen (v := 6) hx hb hK hP 2 1 rfl rfl rfl dX9_kindTold_9 ?_
              refine lv_icmp_ge (tgt := 38) hx hb dX9_kindTold_10 (by decide) (fun _ => ?_) (fun c => absurd (by decide) c)
              refine lv_iload_n hx hb dX9_kindTold_38 rfl (lv_at hl 1 rfl) ?_
              exact W.iret (v := (2 : Int32)) hx hb hr (fun t ht hW => ⟨(2 : Int32), rfl, (by first | omega | decide | (simp only [fa_lt, fa_le, fa_eq, and_true, true_and, and_false, false_and, not_true_eq_false, not_false_eq_true, li_0, li_1, li_2, li_3, li_4, li_5, li_6, li_7, li_8, li_9, li_10, li_12, li_15, li_16, li_20, li_30, li_34, li_38, li_40, li_63, li_64, li_65, li_78, li_120, li_1000, li_4000, li_10000, li_11077, li_255, li_65535, li_m1, li_m2, li_m1000000001, li_m1000000002, li_m1000000003, li_m1000000004, li_m1000000005, li_m1000000006, li_m1000000007, or_true, true_or, or_false, false_or, implies_true, true_implies, false_implies] <;> omega)), ht⟩) (fun _ h => absurd h List.not_mem_nil) dX9_kindTold_39
            · skip
              have tc_56 : ¬ r_55.toInt = 0 := fun h => c_56 ((fa_eq _ _).mpr h)
              refine lv_iload_n hx hb dX9_kindTold_26 rfl (lv_at hl 0 rfl) ?_
              refine lv_goto (tgt := 31) hx hb dX9_kindTold_27 (by decide) ?_
              refine lv_istore_n (lv' := [(1, .int 5), (2, .int 5), (0, .ref h0)]) hx hb dX9_kindTold_31 rfl hl (by decide) rfl (fun ls hl => ?_)
              refine lv_iinc (v := 6) (lv' := [(2, .int 6), (1, .int 5), (0, .ref h0)]) hx hb dX9_kindTold_32 hl (k := 1) rfl (by decide) (by decide) rfl (fun ls hl => ?_)
              refine lv_goto (tgt := 4) hx hb dX9_kindTold_35 (by decide) ?_
              refine lv_iload_n hx hb dX9_kindTold_4 rfl (lv_at hl 0 rfl) ?_
              refine lv_aload_n hx hb dX9_kindTold_5 rfl (lv_at hl 2 rfl) ?_
              refine va_get (D := (dC, dI)) (ci := 7) (v := .ref i0) (C := RX9) (T := TX9) (N := 28) hx hb hts inX9 hown hK hP 0 rfl rfl 17 (by decide) (hts _ (List.mem_of_getElem? (i := 1) rfl)) (fun _ h9 => h9) rfl dX9_kindTold_6 ?_
              refine va_alen (v := 6) hx hb hK hP 2 1 rfl rfl rfl dX9_kindTold_9 ?_
              refine lv_icmp_ge (tgt := 38) hx hb dX9_kindTold_10 (by decide) (fun _ => ?_) (fun c => absurd (by decide) c)
              refine lv_iload_n hx hb dX9_kindTold_38 rfl (lv_at hl 1 rfl) ?_
              exact W.iret (v := (5 : Int32)) hx hb hr (fun t ht hW => ⟨(5 : Int32), rfl, (by first | omega | decide | (simp only [fa_lt, fa_le, fa_eq, and_true, true_and, and_false, false_and, not_true_eq_false, not_false_eq_true, li_0, li_1, li_2, li_3, li_4, li_5, li_6, li_7, li_8, li_9, li_10, li_12, li_15, li_16, li_20, li_30, li_34, li_38, li_40, li_63, li_64, li_65, li_78, li_120, li_1000, li_4000, li_10000, li_11077, li_255, li_65535, li_m1, li_m2, li_m1000000001, li_m1000000002, li_m1000000003, li_m1000000004, li_m1000000005, li_m1000000006, li_m1000000007, or_true, true_or, or_false, false_or, implies_true, true_implies, false_implies] <;> omega)), ht⟩) (fun _ h => absurd h List.not_mem_nil) dX9_kindTold_39
          · skip
            have tc_54 : ¬ r_53.toInt = 0 := fun h => c_54 ((fa_eq _ _).mpr h)
            refine lv_iload_n hx hb dX9_kindTold_26 rfl (lv_at hl 0 rfl) ?_
            refine lv_goto (tgt := 31) hx hb dX9_kindTold_27 (by decide) ?_
            refine lv_istore_n (lv' := [(1, .int 4), (2, .int 4), (0, .ref h0)]) hx hb dX9_kindTold_31 rfl hl (by decide) rfl (fun ls hl => ?_)
            refine lv_iinc (v := 5) (lv' := [(2, .int 5), (1, .int 4), (0, .ref h0)]) hx hb dX9_kindTold_32 hl (k := 1) rfl (by decide) (by decide) rfl (fun ls hl => ?_)
            refine lv_goto (tgt := 4) hx hb dX9_kindTold_35 (by decide) ?_
            refine lv_iload_n hx hb dX9_kindTold_4 rfl (lv_at hl 0 rfl) ?_
            refine lv_aload_n hx hb dX9_kindTold_5 rfl (lv_at hl 2 rfl) ?_
            refine va_get (D := (dC, dI)) (ci := 7) (v := .ref i0) (C := RX9) (T := TX9) (N := 28) hx hb hts inX9 hown hK hP 0 rfl rfl 17 (by decide) (hts _ (List.mem_of_getElem? (i := 1) rfl)) (fun _ h9 => h9) rfl dX9_kindTold_6 ?_
            refine va_alen (v := 6) hx hb hK hP 2 1 rfl rfl rfl dX9_kindTold_9 ?_
            refine lv_icmp_ge (tgt := 38) hx hb dX9_kindTold_10 (by decide) (fun c => absurd c (by decide)) (fun _ => ?_)
            refine lv_aload_n hx hb dX9_kindTold_13 rfl (lv_at hl 2 rfl) ?_
            refine lv_aload_n hx hb dX9_kindTold_14 rfl (lv_at hl 2 rfl) ?_
            refine va_get (D := (dC, dI)) (ci := 7) (v := .ref i0) (C := RX9) (T := TX9) (N := 28) hx hb hts inX9 hown hK hP 0 rfl rfl 17 (by decide) (hts _ (List.mem_of_getElem? (i := 1) rfl)) (fun _ h9 => h9) rfl dX9_kindTold_15 ?_
            refine lv_iload_n hx hb dX9_kindTold_18 rfl (lv_at hl 0 rfl) ?_
            refine va_aldq hx hb hK hP 2 1 rfl rfl (vp_in_nI (n := 5) (by decide) (by decide)) dX9_kindTold_19 ?_
            refine pp_tv (y := .ref (ad 18)) (congrArg va_rf (hjf 5 (by decide))) ?_
            have hPc := hP.sub (ws' := [(h0, .inr (7, [v0, v1, v2, v3, v4, v5, v6, v7, v8, v9, .ref e0, .int ts, .int bg, .int en, .int so, .int va, v16, .ref i0, v18, v19, v20, v21, v22, v23, v24, v25, v26, v27])), (e0, .inl (ec, 120, .inl ef))]) [0, 1] rfl
            have hKc := hK.sub (tys' := [(ec, .int)]) [0] rfl
            refine vp_callSi (W.runV (As := [.ref (ad 18)]) (rest := []) ⟨hx, hb, hml, hown, hts⟩ (m_isWord l dC dI ad h0 18 v0 v1 v2 v3 v4 v5 v6 v7 v8 v9 e0 ts bg en so va v16 (.ref i0) v18 v19 v20 v21 v22 v23 v24 v25 v26 v27 ec ef (by decide) htm hlx) (cwV 1 hts g_m_kindTold_m_isWord_231 rfl rfl rfl (by decide +kernel) ⟨(Nat.le_of_ble_eq_true rfl), (Nat.le_of_ble_eq_true rfl)⟩) ⟨preST_blind, va_recv hKc hPc (ci := 7) (q0 := 0) rfl rfl, fun U hU hW => ⟨rfl, preS_at hU hW hPc hKc hev, sf_at hsf hS (fun _ h => h.elim) hU hW⟩⟩ rfl rfl hl.1 rfl (lv_room (Nat.le_of_ble_eq_true rfl)) dX9_kindTold_20 ⟨(Nat.le_of_ble_eq_true rfl), (Nat.le_of_ble_eq_true rfl)⟩) (fun r_57 hw => ?_)
            have hr_57 : r_57.toInt = 0 ∨ (r_57.toInt = 1 ∧ so.toInt = 1) := hw
            refine lv_if_eq (tgt := 30) hx hb dX9_kindTold_23 (by decide) (fun c_58 => ?_) (fun c_58 => ?_)
            · skip
              have tc_58 : r_57.toInt = 0 := (fa_eq _ _).mp c_58
              refine lv_iload_n hx hb dX9_kindTold_30 rfl (lv_at hl 1 rfl) ?_
              refine lv_istore_n (lv' := [(1, .int 4), (2, .int 5), (0, .ref h0)]) hx hb dX9_kindTold_31 rfl hl (by decide) rfl (fun ls hl => ?_)
              refine lv_iinc (v := 6) (lv' := [(2, .int 6), (1, .int 4), (0, .ref h0)]) hx hb dX9_kindTold_32 hl (k := 1) rfl (by decide) (by decide) rfl (fun ls hl => ?_)
              refine lv_goto (tgt := 4) hx hb dX9_kindTold_35 (by decide) ?_
              refine lv_iload_n hx hb dX9_kindTold_4 rfl (lv_at hl 0 rfl) ?_
              refine lv_aload_n hx hb dX9_kindTold_5 rfl (lv_at hl 2 rfl) ?_
              refine va_get (D := (dC, dI)) (ci := 7) (v := .ref i0) (C := RX9) (T := TX9) (N := 28) hx hb hts inX9 hown hK hP 0 rfl rfl 17 (by decide) (hts _ (List.mem_of_getElem? (i := 1) rfl)) (fun _ h9 => h9) rfl dX9_kindTold_6 ?_
              refine va_alen (v := 6) hx hb hK hP 2 1 rfl rfl rfl dX9_kindTold_9 ?_
              refine lv_icmp_ge (tgt := 38) hx hb dX9_kindTold_10 (by decide) (fun _ => ?_) (fun c => absurd (by decide) c)
              refine lv_iload_n hx hb dX9_kindTold_38 rfl (lv_at hl 1 rfl) ?_
              exact W.iret (v := (4 : Int32)) hx hb hr (fun t ht hW => ⟨(4 : Int32), rfl, (by first | omega | decide | (simp only [fa_lt, fa_le, fa_eq, and_true, true_and, and_false, false_and, not_true_eq_false, not_false_eq_true, li_0, li_1, li_2, li_3, li_4, li_5, li_6, li_7, li_8, li_9, li_10, li_12, li_15, li_16, li_20, li_30, li_34, li_38, li_40, li_63, li_64, li_65, li_78, li_120, li_1000, li_4000, li_10000, li_11077, li_255, li_65535, li_m1, li_m2, li_m1000000001, li_m1000000002, li_m1000000003, li_m1000000004, li_m1000000005, li_m1000000006, li_m1000000007, or_true, true_or, or_false, false_or, implies_true, true_implies, false_implies] <;> omega)), ht⟩) (fun _ h => absurd h List.not_mem_nil) dX9_kindTold_39
            · skip
              have tc_58 : ¬ r_57.toInt = 0 := fun h => c_58 ((fa_eq _ _).mpr h)
              refine lv_iload_n hx hb dX9_kindTold_26 rfl (lv_at hl 0 rfl) ?_
              refine lv_goto (tgt := 31) hx hb dX9_kindTold_27 (by decide) ?_
              refine lv_istore_n (lv' := [(1, .int 5), (2, .int 5), (0, .ref h0)]) hx hb dX9_kindTold_31 rfl hl (by decide) rfl (fun ls hl => ?_)
              refine lv_iinc (v := 6) (lv' := [(2, .int 6), (1, .int 5), (0, .ref h0)]) hx hb dX9_kindTold_32 hl (k := 1) rfl (by decide) (by decide) rfl (fun ls hl => ?_)
              refine lv_goto (tgt := 4) hx hb dX9_kindTold_35 (by decide) ?_
              refine lv_iload_n hx hb dX9_kindTold_4 rfl (lv_at hl 0 rfl) ?_
              refine lv_aload_n hx hb dX9_kindTold_5 rfl (lv_at hl 2 rfl) ?_
              refine va_get (D := (dC, dI)) (ci := 7) (v := .ref i0) (C := RX9) (T := TX9) (N := 28) hx hb hts inX9 hown hK hP 0 rfl rfl 17 (by decide) (hts _ (List.mem_of_getElem? (i := 1) rfl)) (fun _ h9 => h9) rfl dX9_kindTold_6 ?_
              refine va_alen (v := 6) hx hb hK hP 2 1 rfl rfl rfl dX9_kindTold_9 ?_
              refine lv_icmp_ge (tgt := 38) hx hb dX9_kindTold_10 (by decide) (fun _ => ?_) (fun c => absurd (by decide) c)
              refine lv_iload_n hx hb dX9_kindTold_38 rfl (lv_at hl 1 rfl) ?_
              exact W.iret (v := (5 : Int32)) hx hb hr (fun t ht hW => ⟨(5 : Int32), rfl, (by first | omega | decide | (simp only [fa_lt, fa_le, fa_eq, and_true, true_and, and_false, false_and, not_true_eq_false, not_false_eq_true, li_0, li_1, li_2, li_3, li_4, li_5, li_6, li_7, li_8, li_9, li_10, li_12, li_15, li_16, li_20, li_30, li_34, li_38, li_40, li_63, li_64, li_65, li_78, li_120, li_1000, li_4000, li_10000, li_11077, li_255, li_65535, li_m1, li_m2, li_m1000000001, li_m1000000002, li_m1000000003, li_m1000000004, li_m1000000005, li_m1000000006, li_m1000000007, or_true, true_or, or_false, false_or, implies_true, true_implies, false_implies] <;> omega)), ht⟩) (fun _ h => absurd h List.not_mem_nil) dX9_kindTold_39
        · skip
          have tc_52 : ¬ r_51.toInt = 0 := fun h => c_52 ((fa_eq _ _).mpr h)
          refine lv_iload_n hx hb dX9_kindTold_26 rfl (lv_at hl 0 rfl) ?_
          refine lv_goto (tgt := 31) hx hb dX9_kindTold_27 (by decide) ?_
          refine lv_istore_n (lv' := [(1, .int 3), (2, .int 3), (0, .ref h0)]) hx hb dX9_kindTold_31 rfl hl (by decide) rfl (fun ls hl => ?_)
          refine lv_iinc (v := 4) (lv' := [(2, .int 4), (1, .int 3), (0, .ref h0)]) hx hb dX9_kindTold_32 hl (k := 1) rfl (by decide) (by decide) rfl (fun ls hl => ?_)
          refine lv_goto (tgt := 4) hx hb dX9_kindTold_35 (by decide) ?_
          refine lv_iload_n hx hb dX9_kindTold_4 rfl (lv_at hl 0 rfl) ?_
          refine lv_aload_n hx hb dX9_kindTold_5 rfl (lv_at hl 2 rfl) ?_
          refine va_get (D := (dC, dI)) (ci := 7) (v := .ref i0) (C := RX9) (T := TX9) (N := 28) hx hb hts inX9 hown hK hP 0 rfl rfl 17 (by decide) (hts _ (List.mem_of_getElem? (i := 1) rfl)) (fun _ h9 => h9) rfl dX9_kindTold_6 ?_
          refine va_alen (v := 6) hx hb hK hP 2 1 rfl rfl rfl dX9_kindTold_9 ?_
          refine lv_icmp_ge (tgt := 38) hx hb dX9_kindTold_10 (by decide) (fun c => absurd c (by decide)) (fun _ => ?_)
          refine lv_aload_n hx hb dX9_kindTold_13 rfl (lv_at hl 2 rfl) ?_
          refine lv_aload_n hx hb dX9_kindTold_14 rfl (lv_at hl 2 rfl) ?_
          refine va_get (D := (dC, dI)) (ci := 7) (v := .ref i0) (C := RX9) (T := TX9) (N := 28) hx hb hts inX9 hown hK hP 0 rfl rfl 17 (by decide) (hts _ (List.mem_of_getElem? (i := 1) rfl)) (fun _ h9 => h9) rfl dX9_kindTold_15 ?_
          refine lv_iload_n hx hb dX9_kindTold_18 rfl (lv_at hl 0 rfl) ?_
          refine va_aldq hx hb hK hP 2 1 rfl rfl (vp_in_nI (n := 4) (by decide) (by decide)) dX9_kindTold_19 ?_
          refine pp_tv (y := .ref (ad 17)) (congrArg va_rf (hjf 4 (by decide))) ?_
          have hPc := hP.sub (ws' := [(h0, .inr (7, [v0, v1, v2, v3, v4, v5, v6, v7, v8, v9, .ref e0, .int ts, .int bg, .int en, .int so, .int va, v16, .ref i0, v18, v19, v20, v21, v22, v23, v24, v25, v26, v27])), (e0, .inl (ec, 120, .inl ef))]) [0, 1] rfl
          have hKc := hK.sub (tys' := [(ec, .int)]) [0] rfl
          refine vp_callSi (W.runV (As := [.ref (ad 17)]) (rest := []) ⟨hx, hb, hml, hown, hts⟩ (m_isWord l dC dI ad h0 17 v0 v1 v2 v3 v4 v5 v6 v7 v8 v9 e0 ts bg en so va v16 (.ref i0) v18 v19 v20 v21 v22 v23 v24 v25 v26 v27 ec ef (by decide) htm hlx) (cwV 1 hts g_m_kindTold_m_isWord_231 rfl rfl rfl (by decide +kernel) ⟨(Nat.le_of_ble_eq_true rfl), (Nat.le_of_ble_eq_true rfl)⟩) ⟨preST_blind, va_recv hKc hPc (ci := 7) (q0 := 0) rfl rfl, fun U hU hW => ⟨rfl, preS_at hU hW hPc hKc hev, sf_at hsf hS (fun _ h => h.elim) hU hW⟩⟩ rfl rfl hl.1 rfl (lv_room (Nat.le_of_ble_eq_true rfl)) dX9_kindTold_20 ⟨(Nat.le_of_ble_eq_true rfl), (Nat.le_of_ble_eq_true rfl)⟩) (fun r_59 hw => ?_)
          have hr_59 : r_59.toInt = 0 ∨ (r_59.toInt = 1 ∧ so.toInt = 1) := hw
          refine lv_if_eq (tgt := 30) hx hb dX9_kindTold_23 (by decide) (fun c_60 => ?_) (fun c_60 => ?_)
          · skip
            have tc_60 : r_59.toInt = 0 := (fa_eq _ _).mp c_60
            refine lv_iload_n hx hb dX9_kindTold_30 rfl (lv_at hl 1 rfl) ?_
            refine lv_istore_n (lv' := [(1, .int 3), (2, .int 4), (0, .ref h0)]) hx hb dX9_kindTold_31 rfl hl (by decide) rfl (fun ls hl => ?_)
            refine lv_iinc (v := 5) (lv' := [(2, .int 5), (1, .int 3), (0, .ref h0)]) hx hb dX9_kindTold_32 hl (k := 1) rfl (by decide) (by decide) rfl (fun ls hl => ?_)
            refine lv_goto (tgt := 4) hx hb dX9_kindTold_35 (by decide) ?_
            refine lv_iload_n hx hb dX9_kindTold_4 rfl (lv_at hl 0 rfl) ?_
            refine lv_aload_n hx hb dX9_kindTold_5 rfl (lv_at hl 2 rfl) ?_
            refine va_get (D := (dC, dI)) (ci := 7) (v := .ref i0) (C := RX9) (T := TX9) (N := 28) hx hb hts inX9 hown hK hP 0 rfl rfl 17 (by decide) (hts _ (List.mem_of_getElem? (i := 1) rfl)) (fun _ h9 => h9) rfl dX9_kindTold_6 ?_
            refine va_alen (v := 6) hx hb hK hP 2 1 rfl rfl rfl dX9_kindTold_9 ?_
            refine lv_icmp_ge (tgt := 38) hx hb dX9_kindTold_10 (by decide) (fun c => absurd c (by decide)) (fun _ => ?_)
            refine lv_aload_n hx hb dX9_kindTold_13 rfl (lv_at hl 2 rfl) ?_
            refine lv_aload_n hx hb dX9_kindTold_14 rfl (lv_at hl 2 rfl) ?_
            refine va_get (D := (dC, dI)) (ci := 7) (v := .ref i0) (C := RX9) (T := TX9) (N := 28) hx hb hts inX9 hown hK hP 0 rfl rfl 17 (by decide) (hts _ (List.mem_of_getElem? (i := 1) rfl)) (fun _ h9 => h9) rfl dX9_kindTold_15 ?_
            refine lv_iload_n hx hb dX9_kindTold_18 rfl (lv_at hl 0 rfl) ?_
            refine va_aldq hx hb hK hP 2 1 rfl rfl (vp_in_nI (n := 5) (by decide) (by decide)) dX9_kindTold_19 ?_
            refine pp_tv (y := .ref (ad 18)) (congrArg va_rf (hjf 5 (by decide))) ?_
            have hPc := hP.sub (ws' := [(h0, .inr (7, [v0, v1, v2, v3, v4, v5, v6, v7, v8, v9, .ref e0, .int ts, .int bg, .int en, .int so, .int va, v16, .ref i0, v18, v19, v20, v21, v22, v23, v24, v25, v26, v27])), (e0, .inl (ec, 120, .inl ef))]) [0, 1] rfl
            have hKc := hK.sub (tys' := [(ec, .int)]) [0] rfl
            refine vp_callSi (W.runV (As := [.ref (ad 18)]) (rest := []) ⟨hx, hb, hml, hown, hts⟩ (m_isWord l dC dI ad h0 18 v0 v1 v2 v3 v4 v5 v6 v7 v8 v9 e0 ts bg en so va v16 (.ref i0) v18 v19 v20 v21 v22 v23 v24 v25 v26 v27 ec ef (by decide) htm hlx) (cwV 1 hts g_m_kindTold_m_isWord_231 rfl rfl rfl (by decide +kernel) ⟨(Nat.le_of_ble_eq_true rfl), (Nat.le_of_ble_eq_true rfl)⟩) ⟨preST_blind, va_recv hKc hPc (ci := 7) (q0 := 0) rfl rfl, fun U hU hW => ⟨rfl, preS_at hU hW hPc hKc hev, sf_at hsf hS (fun _ h => h.elim) hU hW⟩⟩ rfl rfl hl.1 rfl (lv_room (Nat.le_of_ble_eq_true rfl)) dX9_kindTold_20 ⟨(Nat.le_of_ble_eq_true rfl), (Nat.le_of_ble_eq_true rfl)⟩) (fun r_61 hw => ?_)
            have hr_61 : r_61.toInt = 0 ∨ (r_61.toInt = 1 ∧ so.toInt = 1) := hw
            refine lv_if_eq (tgt := 30) hx hb dX9_kindTold_23 (by decide) (fun c_62 => ?_) (fun c_62 => ?_)
            · skip
              have tc_62 : r_61.toInt = 0 := (fa_eq _ _).mp c_62
              refine lv_iload_n hx hb dX9_kindTold_30 rfl (lv_at hl 1 rfl) ?_
              refine lv_istore_n (lv' := [(1, .int 3), (2, .int 5), (0, .ref h0)]) hx hb dX9_kindTold_31 rfl hl (by decide) rfl (fun ls hl => ?_)
              refine lv_iinc (v := 6) (lv' := [(2, .int 6), (1, .int 3), (0, .ref h0)]) hx hb dX9_kindTold_32 hl (k := 1) rfl (by decide) (by decide) rfl (fun ls hl => ?_)
              refine lv_goto (tgt := 4) hx hb dX9_kindTold_35 (by decide) ?_
              refine lv_iload_n hx hb dX9_kindTold_4 rfl (lv_at hl 0 rfl) ?_
              refine lv_aload_n hx hb dX9_kindTold_5 rfl (lv_at hl 2 rfl) ?_
              refine va_get (D := (dC, dI)) (ci := 7) (v := .ref i0) (C := RX9) (T := TX9) (N := 28) hx hb hts inX9 hown hK hP 0 rfl rfl 17 (by decide) (hts _ (List.mem_of_getElem? (i := 1) rfl)) (fun _ h9 => h9) rfl dX9_kindTold_6 ?_
              refine va_alen (v := 6) hx hb hK hP 2 1 rfl rfl rfl dX9_kindTold_9 ?_
              refine lv_icmp_ge (tgt := 38) hx hb dX9_kindTold_10 (by decide) (fun _ => ?_) (fun c => absurd (by decide) c)
              refine lv_iload_n hx hb dX9_kindTold_38 rfl (lv_at hl 1 rfl) ?_
              exact W.iret (v := (3 : Int32)) hx hb hr (fun t ht hW => ⟨(3 : Int32), rfl, (by first | omega | decide | (simp only [fa_lt, fa_le, fa_eq, and_true, true_and, and_false, false_and, not_true_eq_false, not_false_eq_true, li_0, li_1, li_2, li_3, li_4, li_5, li_6, li_7, li_8, li_9, li_10, li_12, li_15, li_16, li_20, li_30, li_34, li_38, li_40, li_63, li_64, li_65, li_78, li_120, li_1000, li_4000, li_10000, li_11077, li_255, li_65535, li_m1, li_m2, li_m1000000001, li_m1000000002, li_m1000000003, li_m1000000004, li_m1000000005, li_m1000000006, li_m1000000007, or_true, true_or, or_false, false_or, implies_true, true_implies, false_implies] <;> omega)), ht⟩) (fun _ h => absurd h List.not_mem_nil) dX9_kindTold_39
            · skip
              have tc_62 : ¬ r_61.toInt = 0 := fun h => c_62 ((fa_eq _ _).mpr h)
              refine lv_iload_n hx hb dX9_kindTold_26 rfl (lv_at hl 0 rfl) ?_
              refine lv_goto (tgt := 31) hx hb dX9_kindTold_27 (by decide) ?_
              refine lv_istore_n (lv' := [(1, .int 5), (2, .int 5), (0, .ref h0)]) hx hb dX9_kindTold_31 rfl hl (by decide) rfl (fun ls hl => ?_)
              refine lv_iinc (v := 6) (lv' := [(2, .int 6), (1, .int 5), (0, .ref h0)]) hx hb dX9_kindTold_32 hl (k := 1) rfl (by decide) (by decide) rfl (fun ls hl => ?_)
              refine lv_goto (tgt := 4) hx hb dX9_kindTold_35 (by decide) ?_
              refine lv_iload_n hx hb dX9_kindTold_4 rfl (lv_at hl 0 rfl) ?_
              refine lv_aload_n hx hb dX9_kindTold_5 rfl (lv_at hl 2 rfl) ?_
              refine va_get (D := (dC, dI)) (ci := 7) (v := .ref i0) (C := RX9) (T := TX9) (N := 28) hx hb hts inX9 hown hK hP 0 rfl rfl 17 (by decide) (hts _ (List.mem_of_getElem? (i := 1) rfl)) (fun _ h9 => h9) rfl dX9_kindTold_6 ?_
              refine va_alen (v := 6) hx hb hK hP 2 1 rfl rfl rfl dX9_kindTold_9 ?_
              refine lv_icmp_ge (tgt := 38) hx hb dX9_kindTold_10 (by decide) (fun _ => ?_) (fun c => absurd (by decide) c)
              refine lv_iload_n hx hb dX9_kindTold_38 rfl (lv_at hl 1 rfl) ?_
              exact W.iret (v := (5 : Int32)) hx hb hr (fun t ht hW => ⟨(5 : Int32), rfl, (by first | omega | decide | (simp only [fa_lt, fa_le, fa_eq, and_true, true_and, and_false, false_and, not_true_eq_false, not_false_eq_true, li_0, li_1, li_2, li_3, li_4, li_5, li_6, li_7, li_8, li_9, li_10, li_12, li_15, li_16, li_20, li_30, li_34, li_38, li_40, li_63, li_64, li_65, li_78, li_120, li_1000, li_4000, li_10000, li_11077, li_255, li_65535, li_m1, li_m2, li_m1000000001, li_m1000000002, li_m1000000003, li_m1000000004, li_m1000000005, li_m1000000006, li_m1000000007, or_true, true_or, or_false, false_or, implies_true, true_implies, false_implies] <;> omega)), ht⟩) (fun _ h => absurd h List.not_mem_nil) dX9_kindTold_39
          · skip
            have tc_60 : ¬ r_59.toInt = 0 := fun h => c_60 ((fa_eq _ _).mpr h)
            refine lv_iload_n hx hb dX9_kindTold_26 rfl (lv_at hl 0 rfl) ?_
            refine lv_goto (tgt := 31) hx hb dX9_kindTold_27 (by decide) ?_
            refine lv_istore_n (lv' := [(1, .int 4), (2, .int 4), (0, .ref h0)]) hx hb dX9_kindTold_31 rfl hl (by decide) rfl (fun ls hl => ?_)
            refine lv_iinc (v := 5) (lv' := [(2, .int 5), (1, .int 4), (0, .ref h0)]) hx hb dX9_kindTold_32 hl (k := 1) rfl (by decide) (by decide) rfl (fun ls hl => ?_)
            refine lv_goto (tgt := 4) hx hb dX9_kindTold_35 (by decide) ?_
            refine lv_iload_n hx hb dX9_kindTold_4 rfl (lv_at hl 0 rfl) ?_
            refine lv_aload_n hx hb dX9_kindTold_5 rfl (lv_at hl 2 rfl) ?_
            refine va_get (D := (dC, dI)) (ci := 7) (v := .ref i0) (C := RX9) (T := TX9) (N := 28) hx hb hts inX9 hown hK hP 0 rfl rfl 17 (by decide) (hts _ (List.mem_of_getElem? (i := 1) rfl)) (fun _ h9 => h9) rfl dX9_kindTold_6 ?_
            refine va_alen (v := 6) hx hb hK hP 2 1 rfl rfl rfl dX9_kindTold_9 ?_
            refine lv_icmp_ge (tgt := 38) hx hb dX9_kindTold_10 (by decide) (fun c => absurd c (by decide)) (fun _ => ?_)
            refine lv_aload_n hx hb dX9_kindTold_13 rfl (lv_at hl 2 rfl) ?_
            refine lv_aload_n hx hb dX9_kindTold_14 rfl (lv_at hl 2 rfl) ?_
            refine va_get (D := (dC, dI)) (ci := 7) (v := .ref i0) (C := RX9) (T := TX9) (N := 28) hx hb hts inX9 hown hK hP 0 rfl rfl 17 (by decide) (hts _ (List.mem_of_getElem? (i := 1) rfl)) (fun _ h9 => h9) rfl dX9_kindTold_15 ?_
            refine lv_iload_n hx hb dX9_kindTold_18 rfl (lv_at hl 0 rfl) ?_
            refine va_aldq hx hb hK hP 2 1 rfl rfl (vp_in_nI (n := 5) (by decide) (by decide)) dX9_kindTold_19 ?_
            refine pp_tv (y := .ref (ad 18)) (congrArg va_rf (hjf 5 (by decide))) ?_
            have hPc := hP.sub (ws' := [(h0, .inr (7, [v0, v1, v2, v3, v4, v5, v6, v7, v8, v9, .ref e0, .int ts, .int bg, .int en, .int so, .int va, v16, .ref i0, v18, v19, v20, v21, v22, v23, v24, v25, v26, v27])), (e0, .inl (ec, 120, .inl ef))]) [0, 1] rfl
            have hKc := hK.sub (tys' := [(ec, .int)]) [0] rfl
            refine vp_callSi (W.runV (As := [.ref (ad 18)]) (rest := []) ⟨hx, hb, hml, hown, hts⟩ (m_isWord l dC dI ad h0 18 v0 v1 v2 v3 v4 v5 v6 v7 v8 v9 e0 ts bg en so va v16 (.ref i0) v18 v19 v20 v21 v22 v23 v24 v25 v26 v27 ec ef (by decide) htm hlx) (cwV 1 hts g_m_kindTold_m_isWord_231 rfl rfl rfl (by decide +kernel) ⟨(Nat.le_of_ble_eq_true rfl), (Nat.le_of_ble_eq_true rfl)⟩) ⟨preST_blind, va_recv hKc hPc (ci := 7) (q0 := 0) rfl rfl, fun U hU hW => ⟨rfl, preS_at hU hW hPc hKc hev, sf_at hsf hS (fun _ h => h.elim) hU hW⟩⟩ rfl rfl hl.1 rfl (lv_room (Nat.le_of_ble_eq_true rfl)) dX9_kindTold_20 ⟨(Nat.le_of_ble_eq_true rfl), (Nat.le_of_ble_eq_true rfl)⟩) (fun r_63 hw => ?_)
            have hr_63 : r_63.toInt = 0 ∨ (r_63.toInt = 1 ∧ so.toInt = 1) := hw
            refine lv_if_eq (tgt := 30) hx hb dX9_kindTold_23 (by decide) (fun c_64 => ?_) (fun c_64 => ?_)
            · skip
              have tc_64 : r_63.toInt = 0 := (fa_eq _ _).mp c_64
              refine lv_iload_n hx hb dX9_kindTold_30 rfl (lv_at hl 1 rfl) ?_
              refine lv_istore_n (lv' := [(1, .int 4), (2, .int 5), (0, .ref h0)]) hx hb dX9_kindTold_31 rfl hl (by decide) rfl (fun ls hl => ?_)
              refine lv_iinc (v := 6) (lv' := [(2, .int 6), (1, .int 4), (0, .ref h0)]) hx hb dX9_kindTold_32 hl (k := 1) rfl (by decide) (by decide) rfl (fun ls hl => ?_)
              refine lv_goto (tgt := 4) hx hb dX9_kindTold_35 (by decide) ?_
              refine lv_iload_n hx hb dX9_kindTold_4 rfl (lv_at hl 0 rfl) ?_
              refine lv_aload_n hx hb dX9_kindTold_5 rfl (lv_at hl 2 rfl) ?_
              refine va_get (D := (dC, dI)) (ci := 7) (v := .ref i0) (C := RX9) (T := TX9) (N := 28) hx hb hts inX9 hown hK hP 0 rfl rfl 17 (by decide) (hts _ (List.mem_of_getElem? (i := 1) rfl)) (fun _ h9 => h9) rfl dX9_kindTold_6 ?_
              refine va_alen (v := 6) hx hb hK hP 2 1 rfl rfl rfl dX9_kindTold_9 ?_
              refine lv_icmp_ge (tgt := 38) hx hb dX9_kindTold_10 (by decide) (fun _ => ?_) (fun c => absurd (by decide) c)
              refine lv_iload_n hx hb dX9_kindTold_38 rfl (lv_at hl 1 rfl) ?_
              exact W.iret (v := (4 : Int32)) hx hb hr (fun t ht hW => ⟨(4 : Int32), rfl, (by first | omega | decide | (simp only [fa_lt, fa_le, fa_eq, and_true, true_and, and_false, false_and, not_true_eq_false, not_false_eq_true, li_0, li_1, li_2, li_3, li_4, li_5, li_6, li_7, li_8, li_9, li_10, li_12, li_15, li_16, li_20, li_30, li_34, li_38, li_40, li_63, li_64, li_65, li_78, li_120, li_1000, li_4000, li_10000, li_11077, li_255, li_65535, li_m1, li_m2, li_m1000000001, li_m1000000002, li_m1000000003, li_m1000000004, li_m1000000005, li_m1000000006, li_m1000000007, or_true, true_or, or_false, false_or, implies_true, true_implies, false_implies] <;> omega)), ht⟩) (fun _ h => absurd h List.not_mem_nil) dX9_kindTold_39
            · skip
              have tc_64 : ¬ r_63.toInt = 0 := fun h => c_64 ((fa_eq _ _).mpr h)
              refine lv_iload_n hx hb dX9_kindTold_26 rfl (lv_at hl 0 rfl) ?_
              refine lv_goto (tgt := 31) hx hb dX9_kindTold_27 (by decide) ?_
              refine lv_istore_n (lv' := [(1, .int 5), (2, .int 5), (0, .ref h0)]) hx hb dX9_kindTold_31 rfl hl (by decide) rfl (fun ls hl => ?_)
              refine lv_iinc (v := 6) (lv' := [(2, .int 6), (1, .int 5), (0, .ref h0)]) hx hb dX9_kindTold_32 hl (k := 1) rfl (by decide) (by decide) rfl (fun ls hl => ?_)
              refine lv_goto (tgt := 4) hx hb dX9_kindTold_35 (by decide) ?_
              refine lv_iload_n hx hb dX9_kindTold_4 rfl (lv_at hl 0 rfl) ?_
              refine lv_aload_n hx hb dX9_kindTold_5 rfl (lv_at hl 2 rfl) ?_
              refine va_get (D := (dC, dI)) (ci := 7) (v := .ref i0) (C := RX9) (T := TX9) (N := 28) hx hb hts inX9 hown hK hP 0 rfl rfl 17 (by decide) (hts _ (List.mem_of_getElem? (i := 1) rfl)) (fun _ h9 => h9) rfl dX9_kindTold_6 ?_
              refine va_alen (v := 6) hx hb hK hP 2 1 rfl rfl rfl dX9_kindTold_9 ?_
              refine lv_icmp_ge (tgt := 38) hx hb dX9_kindTold_10 (by decide) (fun _ => ?_) (fun c => absurd (by decide) c)
              refine lv_iload_n hx hb dX9_kindTold_38 rfl (lv_at hl 1 rfl) ?_
              exact W.iret (v := (5 : Int32)) hx hb hr (fun t ht hW => ⟨(5 : Int32), rfl, (by first | omega | decide | (simp only [fa_lt, fa_le, fa_eq, and_true, true_and, and_false, false_and, not_true_eq_false, not_false_eq_true, li_0, li_1, li_2, li_3, li_4, li_5, li_6, li_7, li_8, li_9, li_10, li_12, li_15, li_16, li_20, li_30, li_34, li_38, li_40, li_63, li_64, li_65, li_78, li_120, li_1000, li_4000, li_10000, li_11077, li_255, li_65535, li_m1, li_m2, li_m1000000001, li_m1000000002, li_m1000000003, li_m1000000004, li_m1000000005, li_m1000000006, li_m1000000007, or_true, true_or, or_false, false_or, implies_true, true_implies, false_implies] <;> omega)), ht⟩) (fun _ h => absurd h List.not_mem_nil) dX9_kindTold_39
  · skip
    have tc_2 : ¬ r_1.toInt = 0 := fun h => c_2 ((fa_eq _ _).mpr h)
    refine lv_iload_n hx hb dX9_kindTold_26 rfl (lv_at hl 0 rfl) ?_
    refine lv_goto (tgt := 31) hx hb dX9_kindTold_27 (by decide) ?_
    refine lv_istore_n (lv' := [(1, .int 0), (2, .int 0), (0, .ref h0)]) hx hb dX9_kindTold_31 rfl hl (by decide) rfl (fun ls hl => ?_)
    refine lv_iinc (v := 1) (lv' := [(2, .int 1), (1, .int 0), (0, .ref h0)]) hx hb dX9_kindTold_32 hl (k := 1) rfl (by decide) (by decide) rfl (fun ls hl => ?_)
    refine lv_goto (tgt := 4) hx hb dX9_kindTold_35 (by decide) ?_
    refine lv_iload_n hx hb dX9_kindTold_4 rfl (lv_at hl 0 rfl) ?_
    refine lv_aload_n hx hb dX9_kindTold_5 rfl (lv_at hl 2 rfl) ?_
    refine va_get (D := (dC, dI)) (ci := 7) (v := .ref i0) (C := RX9) (T := TX9) (N := 28) hx hb hts inX9 hown hK hP 0 rfl rfl 17 (by decide) (hts _ (List.mem_of_getElem? (i := 1) rfl)) (fun _ h9 => h9) rfl dX9_kindTold_6 ?_
    refine va_alen (v := 6) hx hb hK hP 2 1 rfl rfl rfl dX9_kindTold_9 ?_
    refine lv_icmp_ge (tgt := 38) hx hb dX9_kindTold_10 (by decide) (fun c => absurd c (by decide)) (fun _ => ?_)
    refine lv_aload_n hx hb dX9_kindTold_13 rfl (lv_at hl 2 rfl) ?_
    refine lv_aload_n hx hb dX9_kindTold_14 rfl (lv_at hl 2 rfl) ?_
    refine va_get (D := (dC, dI)) (ci := 7) (v := .ref i0) (C := RX9) (T := TX9) (N := 28) hx hb hts inX9 hown hK hP 0 rfl rfl 17 (by decide) (hts _ (List.mem_of_getElem? (i := 1) rfl)) (fun _ h9 => h9) rfl dX9_kindTold_15 ?_
    refine lv_iload_n hx hb dX9_kindTold_18 rfl (lv_at hl 0 rfl) ?_
    refine va_aldq hx hb hK hP 2 1 rfl rfl (vp_in_nI (n := 1) (by decide) (by decide)) dX9_kindTold_19 ?_
    refine pp_tv (y := .ref (ad 14)) (congrArg va_rf (hjf 1 (by decide))) ?_
    have hPc := hP.sub (ws' := [(h0, .inr (7, [v0, v1, v2, v3, v4, v5, v6, v7, v8, v9, .ref e0, .int ts, .int bg, .int en, .int so, .int va, v16, .ref i0, v18, v19, v20, v21, v22, v23, v24, v25, v26, v27])), (e0, .inl (ec, 120, .inl ef))]) [0, 1] rfl
    have hKc := hK.sub (tys' := [(ec, .int)]) [0] rfl
    refine vp_callSi (W.runV (As := [.ref (ad 14)]) (rest := []) ⟨hx, hb, hml, hown, hts⟩ (m_isWord l dC dI ad h0 14 v0 v1 v2 v3 v4 v5 v6 v7 v8 v9 e0 ts bg en so va v16 (.ref i0) v18 v19 v20 v21 v22 v23 v24 v25 v26 v27 ec ef (by decide) htm hlx) (cwV 1 hts g_m_kindTold_m_isWord_231 rfl rfl rfl (by decide +kernel) ⟨(Nat.le_of_ble_eq_true rfl), (Nat.le_of_ble_eq_true rfl)⟩) ⟨preST_blind, va_recv hKc hPc (ci := 7) (q0 := 0) rfl rfl, fun U hU hW => ⟨rfl, preS_at hU hW hPc hKc hev, sf_at hsf hS (fun _ h => h.elim) hU hW⟩⟩ rfl rfl hl.1 rfl (lv_room (Nat.le_of_ble_eq_true rfl)) dX9_kindTold_20 ⟨(Nat.le_of_ble_eq_true rfl), (Nat.le_of_ble_eq_true rfl)⟩) (fun r_65 hw => ?_)
    have hr_65 : r_65.toInt = 0 ∨ (r_65.toInt = 1 ∧ so.toInt = 1) := hw
    refine lv_if_eq (tgt := 30) hx hb dX9_kindTold_23 (by decide) (fun c_66 => ?_) (fun c_66 => ?_)
    · skip
      have tc_66 : r_65.toInt = 0 := (fa_eq _ _).mp c_66
      refine lv_iload_n hx hb dX9_kindTold_30 rfl (lv_at hl 1 rfl) ?_
      refine lv_istore_n (lv' := [(1, .int 0), (2, .int 1), (0, .ref h0)]) hx hb dX9_kindTold_31 rfl hl (by decide) rfl (fun ls hl => ?_)
      refine lv_iinc (v := 2) (lv' := [(2, .int 2), (1, .int 0), (0, .ref h0)]) hx hb dX9_kindTold_32 hl (k := 1) rfl (by decide) (by decide) rfl (fun ls hl => ?_)
      refine lv_goto (tgt := 4) hx hb dX9_kindTold_35 (by decide) ?_
      refine lv_iload_n hx hb dX9_kindTold_4 rfl (lv_at hl 0 rfl) ?_
      refine lv_aload_n hx hb dX9_kindTold_5 rfl (lv_at hl 2 rfl) ?_
      refine va_get (D := (dC, dI)) (ci := 7) (v := .ref i0) (C := RX9) (T := TX9) (N := 28) hx hb hts inX9 hown hK hP 0 rfl rfl 17 (by decide) (hts _ (List.mem_of_getElem? (i := 1) rfl)) (fun _ h9 => h9) rfl dX9_kindTold_6 ?_
      refine va_alen (v := 6) hx hb hK hP 2 1 rfl rfl rfl dX9_kindTold_9 ?_
      refine lv_icmp_ge (tgt := 38) hx hb dX9_kindTold_10 (by decide) (fun c => absurd c (by decide)) (fun _ => ?_)
      refine lv_aload_n hx hb dX9_kindTold_13 rfl (lv_at hl 2 rfl) ?_
      refine lv_aload_n hx hb dX9_kindTold_14 rfl (lv_at hl 2 rfl) ?_
      refine va_get (D := (dC, dI)) (ci := 7) (v := .ref i0) (C := RX9) (T := TX9) (N := 28) hx hb hts inX9 hown hK hP 0 rfl rfl 17 (by decide) (hts _ (List.mem_of_getElem? (i := 1) rfl)) (fun _ h9 => h9) rfl dX9_kindTold_15 ?_
      refine lv_iload_n hx hb dX9_kindTold_18 rfl (lv_at hl 0 rfl) ?_
      refine va_aldq hx hb hK hP 2 1 rfl rfl (vp_in_nI (n := 2) (by decide) (by decide)) dX9_kindTold_19 ?_
      refine pp_tv (y := .ref (ad 15)) (congrArg va_rf (hjf 2 (by decide))) ?_
      have hPc := hP.sub (ws' := [(h0, .inr (7, [v0, v1, v2, v3, v4, v5, v6, v7, v8, v9, .ref e0, .int ts, .int bg, .int en, .int so, .int va, v16, .ref i0, v18, v19, v20, v21, v22, v23, v24, v25, v26, v27])), (e0, .inl (ec, 120, .inl ef))]) [0, 1] rfl
      have hKc := hK.sub (tys' := [(ec, .int)]) [0] rfl
      refine vp_callSi (W.runV (As := [.ref (ad 15)]) (rest := []) ⟨hx, hb, hml, hown, hts⟩ (m_isWord l dC dI ad h0 15 v0 v1 v2 v3 v4 v5 v6 v7 v8 v9 e0 ts bg en so va v16 (.ref i0) v18 v19 v20 v21 v22 v23 v24 v25 v26 v27 ec ef (by decide) htm hlx) (cwV 1 hts g_m_kindTold_m_isWord_231 rfl rfl rfl (by decide +kernel) ⟨(Nat.le_of_ble_eq_true rfl), (Nat.le_of_ble_eq_true rfl)⟩) ⟨preST_blind, va_recv hKc hPc (ci := 7) (q0 := 0) rfl rfl, fun U hU hW => ⟨rfl, preS_at hU hW hPc hKc hev, sf_at hsf hS (fun _ h => h.elim) hU hW⟩⟩ rfl rfl hl.1 rfl (lv_room (Nat.le_of_ble_eq_true rfl)) dX9_kindTold_20 ⟨(Nat.le_of_ble_eq_true rfl), (Nat.le_of_ble_eq_true rfl)⟩) (fun r_67 hw => ?_)
      have hr_67 : r_67.toInt = 0 ∨ (r_67.toInt = 1 ∧ so.toInt = 1) := hw
      refine lv_if_eq (tgt := 30) hx hb dX9_kindTold_23 (by decide) (fun c_68 => ?_) (fun c_68 => ?_)
      · skip
        have tc_68 : r_67.toInt = 0 := (fa_eq _ _).mp c_68
        refine lv_iload_n hx hb dX9_kindTold_30 rfl (lv_at hl 1 rfl) ?_
        refine lv_istore_n (lv' := [(1, .int 0), (2, .int 2), (0, .ref h0)]) hx hb dX9_kindTold_31 rfl hl (by decide) rfl (fun ls hl => ?_)
        refine lv_iinc (v := 3) (lv' := [(2, .int 3), (1, .int 0), (0, .ref h0)]) hx hb dX9_kindTold_32 hl (k := 1) rfl (by decide) (by decide) rfl (fun ls hl => ?_)
        refine lv_goto (tgt := 4) hx hb dX9_kindTold_35 (by decide) ?_
        refine lv_iload_n hx hb dX9_kindTold_4 rfl (lv_at hl 0 rfl) ?_
        refine lv_aload_n hx hb dX9_kindTold_5 rfl (lv_at hl 2 rfl) ?_
        refine va_get (D := (dC, dI)) (ci := 7) (v := .ref i0) (C := RX9) (T := TX9) (N := 28) hx hb hts inX9 hown hK hP 0 rfl rfl 17 (by decide) (hts _ (List.mem_of_getElem? (i := 1) rfl)) (fun _ h9 => h9) rfl dX9_kindTold_6 ?_
        refine va_alen (v := 6) hx hb hK hP 2 1 rfl rfl rfl dX9_kindTold_9 ?_
        refine lv_icmp_ge (tgt := 38) hx hb dX9_kindTold_10 (by decide) (fun c => absurd c (by decide)) (fun _ => ?_)
        refine lv_aload_n hx hb dX9_kindTold_13 rfl (lv_at hl 2 rfl) ?_
        refine lv_aload_n hx hb dX9_kindTold_14 rfl (lv_at hl 2 rfl) ?_
        refine va_get (D := (dC, dI)) (ci := 7) (v := .ref i0) (C := RX9) (T := TX9) (N := 28) hx hb hts inX9 hown hK hP 0 rfl rfl 17 (by decide) (hts _ (List.mem_of_getElem? (i := 1) rfl)) (fun _ h9 => h9) rfl dX9_kindTold_15 ?_
        refine lv_iload_n hx hb dX9_kindTold_18 rfl (lv_at hl 0 rfl) ?_
        refine va_aldq hx hb hK hP 2 1 rfl rfl (vp_in_nI (n := 3) (by decide) (by decide)) dX9_kindTold_19 ?_
        refine pp_tv (y := .ref (ad 16)) (congrArg va_rf (hjf 3 (by decide))) ?_
        have hPc := hP.sub (ws' := [(h0, .inr (7, [v0, v1, v2, v3, v4, v5, v6, v7, v8, v9, .ref e0, .int ts, .int bg, .int en, .int so, .int va, v16, .ref i0, v18, v19, v20, v21, v22, v23, v24, v25, v26, v27])), (e0, .inl (ec, 120, .inl ef))]) [0, 1] rfl
        have hKc := hK.sub (tys' := [(ec, .int)]) [0] rfl
        refine vp_callSi (W.runV (As := [.ref (ad 16)]) (rest := []) ⟨hx, hb, hml, hown, hts⟩ (m_isWord l dC dI ad h0 16 v0 v1 v2 v3 v4 v5 v6 v7 v8 v9 e0 ts bg en so va v16 (.ref i0) v18 v19 v20 v21 v22 v23 v24 v25 v26 v27 ec ef (by decide) htm hlx) (cwV 1 hts g_m_kindTold_m_isWord_231 rfl rfl rfl (by decide +kernel) ⟨(Nat.le_of_ble_eq_true rfl), (Nat.le_of_ble_eq_true rfl)⟩) ⟨preST_blind, va_recv hKc hPc (ci := 7) (q0 := 0) rfl rfl, fun U hU hW => ⟨rfl, preS_at hU hW hPc hKc hev, sf_at hsf hS (fun _ h => h.elim) hU hW⟩⟩ rfl rfl hl.1 rfl (lv_room (Nat.le_of_ble_eq_true rfl)) dX9_kindTold_20 ⟨(Nat.le_of_ble_eq_true rfl), (Nat.le_of_ble_eq_true rfl)⟩) (fun r_69 hw => ?_)
        have hr_69 : r_69.toInt = 0 ∨ (r_69.toInt = 1 ∧ so.toInt = 1) := hw
        refine lv_if_eq (tgt := 30) hx hb dX9_kindTold_23 (by decide) (fun c_70 => ?_) (fun c_70 => ?_)
        · skip
          have tc_70 : r_69.toInt = 0 := (fa_eq _ _).mp c_70
          refine lv_iload_n hx hb dX9_kindTold_30 rfl (lv_at hl 1 rfl) ?_
          refine lv_istore_n (lv' := [(1, .int 0), (2, .int 3), (0, .ref h0)]) hx hb dX9_kindTold_31 rfl hl (by decide) rfl (fun ls hl => ?_)
          refine lv_iinc (v := 4) (lv' := [(2, .int 4), (1, .int 0), (0, .ref h0)]) hx hb dX9_kindTold_32 hl (k := 1) rfl (by decide) (by decide) rfl (fun ls hl => ?_)
          refine lv_goto (tgt := 4) hx hb dX9_kindTold_35 (by decide) ?_
          refine lv_iload_n hx hb dX9_kindTold_4 rfl (lv_at hl 0 rfl) ?_
          refine lv_aload_n hx hb dX9_kindTold_5 rfl (lv_at hl 2 rfl) ?_
          refine va_get (D := (dC, dI)) (ci := 7) (v := .ref i0) (C := RX9) (T := TX9) (N := 28) hx hb hts inX9 hown hK hP 0 rfl rfl 17 (by decide) (hts _ (List.mem_of_getElem? (i := 1) rfl)) (fun _ h9 => h9) rfl dX9_kindTold_6 ?_
          refine va_alen (v := 6) hx hb hK hP 2 1 rfl rfl rfl dX9_kindTold_9 ?_
          refine lv_icmp_ge (tgt := 38) hx hb dX9_kindTold_10 (by decide) (fun c => absurd c (by decide)) (fun _ => ?_)
          refine lv_aload_n hx hb dX9_kindTold_13 rfl (lv_at hl 2 rfl) ?_
          refine lv_aload_n hx hb dX9_kindTold_14 rfl (lv_at hl 2 rfl) ?_
          refine va_get (D := (dC, dI)) (ci := 7) (v := .ref i0) (C := RX9) (T := TX9) (N := 28) hx hb hts inX9 hown hK hP 0 rfl rfl 17 (by decide) (hts _ (List.mem_of_getElem? (i := 1) rfl)) (fun _ h9 => h9) rfl dX9_kindTold_15 ?_
          refine lv_iload_n hx hb dX9_kindTold_18 rfl (lv_at hl 0 rfl) ?_
          refine va_aldq hx hb hK hP 2 1 rfl rfl (vp_in_nI (n := 4) (by decide) (by decide)) dX9_kindTold_19 ?_
          refine pp_tv (y := .ref (ad 17)) (congrArg va_rf (hjf 4 (by decide))) ?_
          have hPc := hP.sub (ws' := [(h0, .inr (7, [v0, v1, v2, v3, v4, v5, v6, v7, v8, v9, .ref e0, .int ts, .int bg, .int en, .int so, .int va, v16, .ref i0, v18, v19, v20, v21, v22, v23, v24, v25, v26, v27])), (e0, .inl (ec, 120, .inl ef))]) [0, 1] rfl
          have hKc := hK.sub (tys' := [(ec, .int)]) [0] rfl
          refine vp_callSi (W.runV (As := [.ref (ad 17)]) (rest := []) ⟨hx, hb, hml, hown, hts⟩ (m_isWord l dC dI ad h0 17 v0 v1 v2 v3 v4 v5 v6 v7 v8 v9 e0 ts bg en so va v16 (.ref i0) v18 v19 v20 v21 v22 v23 v24 v25 v26 v27 ec ef (by decide) htm hlx) (cwV 1 hts g_m_kindTold_m_isWord_231 rfl rfl rfl (by decide +kernel) ⟨(Nat.le_of_ble_eq_true rfl), (Nat.le_of_ble_eq_true rfl)⟩) ⟨preST_blind, va_recv hKc hPc (ci := 7) (q0 := 0) rfl rfl, fun U hU hW => ⟨rfl, preS_at hU hW hPc hKc hev, sf_at hsf hS (fun _ h => h.elim) hU hW⟩⟩ rfl rfl hl.1 rfl (lv_room (Nat.le_of_ble_eq_true rfl)) dX9_kindTold_20 ⟨(Nat.le_of_ble_eq_true rfl), (Nat.le_of_ble_eq_true rfl)⟩) (fun r_71 hw => ?_)
          have hr_71 : r_71.toInt = 0 ∨ (r_71.toInt = 1 ∧ so.toInt = 1) := hw
          refine lv_if_eq (tgt := 30) hx hb dX9_kindTold_23 (by decide) (fun c_72 => ?_) (fun c_72 => ?_)
          · skip
            have tc_72 : r_71.toInt = 0 := (fa_eq _ _).mp c_72
            refine lv_iload_n hx hb dX9_kindTold_30 rfl (lv_at hl 1 rfl) ?_
            refine lv_istore_n (lv' := [(1, .int 0), (2, .int 4), (0, .ref h0)]) hx hb dX9_kindTold_31 rfl hl (by decide) rfl (fun ls hl => ?_)
            refine lv_iinc (v := 5) (lv' := [(2, .int 5), (1, .int 0), (0, .ref h0)]) hx hb dX9_kindTold_32 hl (k := 1) rfl (by decide) (by decide) rfl (fun ls hl => ?_)
            refine lv_goto (tgt := 4) hx hb dX9_kindTold_35 (by decide) ?_
            refine lv_iload_n hx hb dX9_kindTold_4 rfl (lv_at hl 0 rfl) ?_
            refine lv_aload_n hx hb dX9_kindTold_5 rfl (lv_at hl 2 rfl) ?_
            refine va_get (D := (dC, dI)) (ci := 7) (v := .ref i0) (C := RX9) (T := TX9) (N := 28) hx hb hts inX9 hown hK hP 0 rfl rfl 17 (by decide) (hts _ (List.mem_of_getElem? (i := 1) rfl)) (fun _ h9 => h9) rfl dX9_kindTold_6 ?_
            refine va_alen (v := 6) hx hb hK hP 2 1 rfl rfl rfl dX9_kindTold_9 ?_
            refine lv_icmp_ge (tgt := 38) hx hb dX9_kindTold_10 (by decide) (fun c => absurd c (by decide)) (fun _ => ?_)
            refine lv_aload_n hx hb dX9_kindTold_13 rfl (lv_at hl 2 rfl) ?_
            refine lv_aload_n hx hb dX9_kindTold_14 rfl (lv_at hl 2 rfl) ?_
            refine va_get (D := (dC, dI)) (ci := 7) (v := .ref i0) (C := RX9) (T := TX9) (N := 28) hx hb hts inX9 hown hK hP 0 rfl rfl 17 (by decide) (hts _ (List.mem_of_getElem? (i := 1) rfl)) (fun _ h9 => h9) rfl dX9_kindTold_15 ?_
            refine lv_iload_n hx hb dX9_kindTold_18 rfl (lv_at hl 0 rfl) ?_
            refine va_aldq hx hb hK hP 2 1 rfl rfl (vp_in_nI (n := 5) (by decide) (by decide)) dX9_kindTold_19 ?_
            refine pp_tv (y := .ref (ad 18)) (congrArg va_rf (hjf 5 (by decide))) ?_
            have hPc := hP.sub (ws' := [(h0, .inr (7, [v0, v1, v2, v3, v4, v5, v6, v7, v8, v9, .ref e0, .int ts, .int bg, .int en, .int so, .int va, v16, .ref i0, v18, v19, v20, v21, v22, v23, v24, v25, v26, v27])), (e0, .inl (ec, 120, .inl ef))]) [0, 1] rfl
            have hKc := hK.sub (tys' := [(ec, .int)]) [0] rfl
            refine vp_callSi (W.runV (As := [.ref (ad 18)]) (rest := []) ⟨hx, hb, hml, hown, hts⟩ (m_isWord l dC dI ad h0 18 v0 v1 v2 v3 v4 v5 v6 v7 v8 v9 e0 ts bg en so va v16 (.ref i0) v18 v19 v20 v21 v22 v23 v24 v25 v26 v27 ec ef (by decide) htm hlx) (cwV 1 hts g_m_kindTold_m_isWord_231 rfl rfl rfl (by decide +kernel) ⟨(Nat.le_of_ble_eq_true rfl), (Nat.le_of_ble_eq_true rfl)⟩) ⟨preST_blind, va_recv hKc hPc (ci := 7) (q0 := 0) rfl rfl, fun U hU hW => ⟨rfl, preS_at hU hW hPc hKc hev, sf_at hsf hS (fun _ h => h.elim) hU hW⟩⟩ rfl rfl hl.1 rfl (lv_room (Nat.le_of_ble_eq_true rfl)) dX9_kindTold_20 ⟨(Nat.le_of_ble_eq_true rfl), (Nat.le_of_ble_eq_true rfl)⟩) (fun r_73 hw => ?_)
            have hr_73 : r_73.toInt = 0 ∨ (r_73.toInt = 1 ∧ so.toInt = 1) := hw
            refine lv_if_eq (tgt := 30) hx hb dX9_kindTold_23 (by decide) (fun c_74 => ?_) (fun c_74 => ?_)
            · skip
              have tc_74 : r_73.toInt = 0 := (fa_eq _ _).mp c_74
              refine lv_iload_n hx hb dX9_kindTold_30 rfl (lv_at hl 1 rfl) ?_
              refine lv_istore_n (lv' := [(1, .int 0), (2, .int 5), (0, .ref h0)]) hx hb dX9_kindTold_31 rfl hl (by decide) rfl (fun ls hl => ?_)
              refine lv_iinc (v := 6) (lv' := [(2, .int 6), (1, .int 0), (0, .ref h0)]) hx hb dX9_kindTold_32 hl (k := 1) rfl (by decide) (by decide) rfl (fun ls hl => ?_)
              refine lv_goto (tgt := 4) hx hb dX9_kindTold_35 (by decide) ?_
              refine lv_iload_n hx hb dX9_kindTold_4 rfl (lv_at hl 0 rfl) ?_
              refine lv_aload_n hx hb dX9_kindTold_5 rfl (lv_at hl 2 rfl) ?_
              refine va_get (D := (dC, dI)) (ci := 7) (v := .ref i0) (C := RX9) (T := TX9) (N := 28) hx hb hts inX9 hown hK hP 0 rfl rfl 17 (by decide) (hts _ (List.mem_of_getElem? (i := 1) rfl)) (fun _ h9 => h9) rfl dX9_kindTold_6 ?_
              refine va_alen (v := 6) hx hb hK hP 2 1 rfl rfl rfl dX9_kindTold_9 ?_
              refine lv_icmp_ge (tgt := 38) hx hb dX9_kindTold_10 (by decide) (fun _ => ?_) (fun c => absurd (by decide) c)
              refine lv_iload_n hx hb dX9_kindTold_38 rfl (lv_at hl 1 rfl) ?_
              exact W.iret (v := (0 : Int32)) hx hb hr (fun t ht hW => ⟨(0 : Int32), rfl, (by first | omega | decide | (simp only [fa_lt, fa_le, fa_eq, and_true, true_and, and_false, false_and, not_true_eq_false, not_false_eq_true, li_0, li_1, li_2, li_3, li_4, li_5, li_6, li_7, li_8, li_9, li_10, li_12, li_15, li_16, li_20, li_30, li_34, li_38, li_40, li_63, li_64, li_65, li_78, li_120, li_1000, li_4000, li_10000, li_11077, li_255, li_65535, li_m1, li_m2, li_m1000000001, li_m1000000002, li_m1000000003, li_m1000000004, li_m1000000005, li_m1000000006, li_m1000000007, or_true, true_or, or_false, false_or, implies_true, true_implies, false_implies] <;> omega)), ht⟩) (fun _ h => absurd h List.not_mem_nil) dX9_kindTold_39
            · skip
              have tc_74 : ¬ r_73.toInt = 0 := fun h => c_74 ((fa_eq _ _).mpr h)
              refine lv_iload_n hx hb dX9_kindTold_26 rfl (lv_at hl 0 rfl) ?_
              refine lv_goto (tgt := 31) hx hb dX9_kindTold_27 (by decide) ?_
              refine lv_istore_n (lv' := [(1, .int 5), (2, .int 5), (0, .ref h0)]) hx hb dX9_kindTold_31 rfl hl (by decide) rfl (fun ls hl => ?_)
              refine lv_iinc (v := 6) (lv' := [(2, .int 6), (1, .int 5), (0, .ref h0)]) hx hb dX9_kindTold_32 hl (k := 1) rfl (by decide) (by decide) rfl (fun ls hl => ?_)
              refine lv_goto (tgt := 4) hx hb dX9_kindTold_35 (by decide) ?_
              refine lv_iload_n hx hb dX9_kindTold_4 rfl (lv_at hl 0 rfl) ?_
              refine lv_aload_n hx hb dX9_kindTold_5 rfl (lv_at hl 2 rfl) ?_
              refine va_get (D := (dC, dI)) (ci := 7) (v := .ref i0) (C := RX9) (T := TX9) (N := 28) hx hb hts inX9 hown hK hP 0 rfl rfl 17 (by decide) (hts _ (List.mem_of_getElem? (i := 1) rfl)) (fun _ h9 => h9) rfl dX9_kindTold_6 ?_
              refine va_alen (v := 6) hx hb hK hP 2 1 rfl rfl rfl dX9_kindTold_9 ?_
              refine lv_icmp_ge (tgt := 38) hx hb dX9_kindTold_10 (by decide) (fun _ => ?_) (fun c => absurd (by decide) c)
              refine lv_iload_n hx hb dX9_kindTold_38 rfl (lv_at hl 1 rfl) ?_
              exact W.iret (v := (5 : Int32)) hx hb hr (fun t ht hW => ⟨(5 : Int32), rfl, (by first | omega | decide | (simp only [fa_lt, fa_le, fa_eq, and_true, true_and, and_false, false_and, not_true_eq_false, not_false_eq_true, li_0, li_1, li_2, li_3, li_4, li_5, li_6, li_7, li_8, li_9, li_10, li_12, li_15, li_16, li_20, li_30, li_34, li_38, li_40, li_63, li_64, li_65, li_78, li_120, li_1000, li_4000, li_10000, li_11077, li_255, li_65535, li_m1, li_m2, li_m1000000001, li_m1000000002, li_m1000000003, li_m1000000004, li_m1000000005, li_m1000000006, li_m1000000007, or_true, true_or, or_false, false_or, implies_true, true_implies, false_implies] <;> omega)), ht⟩) (fun _ h => absurd h List.not_mem_nil) dX9_kindTold_39
          · skip
            have tc_72 : ¬ r_71.toInt = 0 := fun h => c_72 ((fa_eq _ _).mpr h)
            refine lv_iload_n hx hb dX9_kindTold_26 rfl (lv_at hl 0 rfl) ?_
            refine lv_goto (tgt := 31) hx hb dX9_kindTold_27 (by decide) ?_
            refine lv_istore_n (lv' := [(1, .int 4), (2, .int 4), (0, .ref h0)]) hx hb dX9_kindTold_31 rfl hl (by decide) rfl (fun ls hl => ?_)
            refine lv_iinc (v := 5) (lv' := [(2, .int 5), (1, .int 4), (0, .ref h0)]) hx hb dX9_kindTold_32 hl (k := 1) rfl (by decide) (by decide) rfl (fun ls hl => ?_)
            refine lv_goto (tgt := 4) hx hb dX9_kindTold_35 (by decide) ?_
            refine lv_iload_n hx hb dX9_kindTold_4 rfl (lv_at hl 0 rfl) ?_
            refine lv_aload_n hx hb dX9_kindTold_5 rfl (lv_at hl 2 rfl) ?_
            refine va_get (D := (dC, dI)) (ci := 7) (v := .ref i0) (C := RX9) (T := TX9) (N := 28) hx hb hts inX9 hown hK hP 0 rfl rfl 17 (by decide) (hts _ (List.mem_of_getElem? (i := 1) rfl)) (fun _ h9 => h9) rfl dX9_kindTold_6 ?_
            refine va_alen (v := 6) hx hb hK hP 2 1 rfl rfl rfl dX9_kindTold_9 ?_
            refine lv_icmp_ge (tgt := 38) hx hb dX9_kindTold_10 (by decide) (fun c => absurd c (by decide)) (fun _ => ?_)
            refine lv_aload_n hx hb dX9_kindTold_13 rfl (lv_at hl 2 rfl) ?_
            refine lv_aload_n hx hb dX9_kindTold_14 rfl (lv_at hl 2 rfl) ?_
            refine va_get (D := (dC, dI)) (ci := 7) (v := .ref i0) (C := RX9) (T := TX9) (N := 28) hx hb hts inX9 hown hK hP 0 rfl rfl 17 (by decide) (hts _ (List.mem_of_getElem? (i := 1) rfl)) (fun _ h9 => h9) rfl dX9_kindTold_15 ?_
            refine lv_iload_n hx hb dX9_kindTold_18 rfl (lv_at hl 0 rfl) ?_
            refine va_aldq hx hb hK hP 2 1 rfl rfl (vp_in_nI (n := 5) (by decide) (by decide)) dX9_kindTold_19 ?_
            refine pp_tv (y := .ref (ad 18)) (congrArg va_rf (hjf 5 (by decide))) ?_
            have hPc := hP.sub (ws' := [(h0, .inr (7, [v0, v1, v2, v3, v4, v5, v6, v7, v8, v9, .ref e0, .int ts, .int bg, .int en, .int so, .int va, v16, .ref i0, v18, v19, v20, v21, v22, v23, v24, v25, v26, v27])), (e0, .inl (ec, 120, .inl ef))]) [0, 1] rfl
            have hKc := hK.sub (tys' := [(ec, .int)]) [0] rfl
            refine vp_callSi (W.runV (As := [.ref (ad 18)]) (rest := []) ⟨hx, hb, hml, hown, hts⟩ (m_isWord l dC dI ad h0 18 v0 v1 v2 v3 v4 v5 v6 v7 v8 v9 e0 ts bg en so va v16 (.ref i0) v18 v19 v20 v21 v22 v23 v24 v25 v26 v27 ec ef (by decide) htm hlx) (cwV 1 hts g_m_kindTold_m_isWord_231 rfl rfl rfl (by decide +kernel) ⟨(Nat.le_of_ble_eq_true rfl), (Nat.le_of_ble_eq_true rfl)⟩) ⟨preST_blind, va_recv hKc hPc (ci := 7) (q0 := 0) rfl rfl, fun U hU hW => ⟨rfl, preS_at hU hW hPc hKc hev, sf_at hsf hS (fun _ h => h.elim) hU hW⟩⟩ rfl rfl hl.1 rfl (lv_room (Nat.le_of_ble_eq_true rfl)) dX9_kindTold_20 ⟨(Nat.le_of_ble_eq_true rfl), (Nat.le_of_ble_eq_true rfl)⟩) (fun r_75 hw => ?_)
            have hr_75 : r_75.toInt = 0 ∨ (r_75.toInt = 1 ∧ so.toInt = 1) := hw
            refine lv_if_eq (tgt := 30) hx hb dX9_kindTold_23 (by decide) (fun c_76 => ?_) (fun c_76 => ?_)
            · skip
              have tc_76 : r_75.toInt = 0 := (fa_eq _ _).mp c_76
              refine lv_iload_n hx hb dX9_kindTold_30 rfl (lv_at hl 1 rfl) ?_
              refine lv_istore_n (lv' := [(1, .int 4), (2, .int 5), (0, .ref h0)]) hx hb dX9_kindTold_31 rfl hl (by decide) rfl (fun ls hl => ?_)
              refine lv_iinc (v := 6) (lv' := [(2, .int 6), (1, .int 4), (0, .ref h0)]) hx hb dX9_kindTold_32 hl (k := 1) rfl (by decide) (by decide) rfl (fun ls hl => ?_)
              refine lv_goto (tgt := 4) hx hb dX9_kindTold_35 (by decide) ?_
              refine lv_iload_n hx hb dX9_kindTold_4 rfl (lv_at hl 0 rfl) ?_
              refine lv_aload_n hx hb dX9_kindTold_5 rfl (lv_at hl 2 rfl) ?_
              refine va_get (D := (dC, dI)) (ci := 7) (v := .ref i0) (C := RX9) (T := TX9) (N := 28) hx hb hts inX9 hown hK hP 0 rfl rfl 17 (by decide) (hts _ (List.mem_of_getElem? (i := 1) rfl)) (fun _ h9 => h9) rfl dX9_kindTold_6 ?_
              refine va_alen (v := 6) hx hb hK hP 2 1 rfl rfl rfl dX9_kindTold_9 ?_
              refine lv_icmp_ge (tgt := 38) hx hb dX9_kindTold_10 (by decide) (fun _ => ?_) (fun c => absurd (by decide) c)
              refine lv_iload_n hx hb dX9_kindTold_38 rfl (lv_at hl 1 rfl) ?_
              exact W.iret (v := (4 : Int32)) hx hb hr (fun t ht hW => ⟨(4 : Int32), rfl, (by first | omega | decide | (simp only [fa_lt, fa_le, fa_eq, and_true, true_and, and_false, false_and, not_true_eq_false, not_false_eq_true, li_0, li_1, li_2, li_3, li_4, li_5, li_6, li_7, li_8, li_9, li_10, li_12, li_15, li_16, li_20, li_30, li_34, li_38, li_40, li_63, li_64, li_65, li_78, li_120, li_1000, li_4000, li_10000, li_11077, li_255, li_65535, li_m1, li_m2, li_m1000000001, li_m1000000002, li_m1000000003, li_m1000000004, li_m1000000005, li_m1000000006, li_m1000000007, or_true, true_or, or_false, false_or, implies_true, true_implies, false_implies] <;> omega)), ht⟩) (fun _ h => absurd h List.not_mem_nil) dX9_kindTold_39
            · skip
              have tc_76 : ¬ r_75.toInt = 0 := fun h => c_76 ((fa_eq _ _).mpr h)
              refine lv_iload_n hx hb dX9_kindTold_26 rfl (lv_at hl 0 rfl) ?_
              refine lv_goto (tgt := 31) hx hb dX9_kindTold_27 (by decide) ?_
              refine lv_istore_n (lv' := [(1, .int 5), (2, .int 5), (0, .ref h0)]) hx hb dX9_kindTold_31 rfl hl (by decide) rfl (fun ls hl => ?_)
              refine lv_iinc (v := 6) (lv' := [(2, .int 6), (1, .int 5), (0, .ref h0)]) hx hb dX9_kindTold_32 hl (k := 1) rfl (by decide) (by decide) rfl (fun ls hl => ?_)
              refine lv_goto (tgt := 4) hx hb dX9_kindTold_35 (by decide) ?_
              refine lv_iload_n hx hb dX9_kindTold_4 rfl (lv_at hl 0 rfl) ?_
              refine lv_aload_n hx hb dX9_kindTold_5 rfl (lv_at hl 2 rfl) ?_
              refine va_get (D := (dC, dI)) (ci := 7) (v := .ref i0) (C := RX9) (T := TX9) (N := 28) hx hb hts inX9 hown hK hP 0 rfl rfl 17 (by decide) (hts _ (List.mem_of_getElem? (i := 1) rfl)) (fun _ h9 => h9) rfl dX9_kindTold_6 ?_
              refine va_alen (v := 6) hx hb hK hP 2 1 rfl rfl rfl dX9_kindTold_9 ?_
              refine lv_icmp_ge (tgt := 38) hx hb dX9_kindTold_10 (by decide) (fun _ => ?_) (fun c => absurd (by decide) c)
              refine lv_iload_n hx hb dX9_kindTold_38 rfl (lv_at hl 1 rfl) ?_
              exact W.iret (v := (5 : Int32)) hx hb hr (fun t ht hW => ⟨(5 : Int32), rfl, (by first | omega | decide | (simp only [fa_lt, fa_le, fa_eq, and_true, true_and, and_false, false_and, not_true_eq_false, not_false_eq_true, li_0, li_1, li_2, li_3, li_4, li_5, li_6, li_7, li_8, li_9, li_10, li_12, li_15, li_16, li_20, li_30, li_34, li_38, li_40, li_63, li_64, li_65, li_78, li_120, li_1000, li_4000, li_10000, li_11077, li_255, li_65535, li_m1, li_m2, li_m1000000001, li_m1000000002, li_m1000000003, li_m1000000004, li_m1000000005, li_m1000000006, li_m1000000007, or_true, true_or, or_false, false_or, implies_true, true_implies, false_implies] <;> omega)), ht⟩) (fun _ h => absurd h List.not_mem_nil) dX9_kindTold_39
        · skip
          have tc_70 : ¬ r_69.toInt = 0 := fun h => c_70 ((fa_eq _ _).mpr h)
          refine lv_iload_n hx hb dX9_kindTold_26 rfl (lv_at hl 0 rfl) ?_
          refine lv_goto (tgt := 31) hx hb dX9_kindTold_27 (by decide) ?_
          refine lv_istore_n (lv' := [(1, .int 3), (2, .int 3), (0, .ref h0)]) hx hb dX9_kindTold_31 rfl hl (by decide) rfl (fun ls hl => ?_)
          refine lv_iinc (v := 4) (lv' := [(2, .int 4), (1, .int 3), (0, .ref h0)]) hx hb dX9_kindTold_32 hl (k := 1) rfl (by decide) (by decide) rfl (fun ls hl => ?_)
          refine lv_goto (tgt := 4) hx hb dX9_kindTold_35 (by decide) ?_
          refine lv_iload_n hx hb dX9_kindTold_4 rfl (lv_at hl 0 rfl) ?_
          refine lv_aload_n hx hb dX9_kindTold_5 rfl (lv_at hl 2 rfl) ?_
          refine va_get (D := (dC, dI)) (ci := 7) (v := .ref i0) (C := RX9) (T := TX9) (N := 28) hx hb hts inX9 hown hK hP 0 rfl rfl 17 (by decide) (hts _ (List.mem_of_getElem? (i := 1) rfl)) (fun _ h9 => h9) rfl dX9_kindTold_6 ?_
          refine va_alen (v := 6) hx hb hK hP 2 1 rfl rfl rfl dX9_kindTold_9 ?_
          refine lv_icmp_ge (tgt := 38) hx hb dX9_kindTold_10 (by decide) (fun c => absurd c (by decide)) (fun _ => ?_)
          refine lv_aload_n hx hb dX9_kindTold_13 rfl (lv_at hl 2 rfl) ?_
          refine lv_aload_n hx hb dX9_kindTold_14 rfl (lv_at hl 2 rfl) ?_
          refine va_get (D := (dC, dI)) (ci := 7) (v := .ref i0) (C := RX9) (T := TX9) (N := 28) hx hb hts inX9 hown hK hP 0 rfl rfl 17 (by decide) (hts _ (List.mem_of_getElem? (i := 1) rfl)) (fun _ h9 => h9) rfl dX9_kindTold_15 ?_
          refine lv_iload_n hx hb dX9_kindTold_18 rfl (lv_at hl 0 rfl) ?_
          refine va_aldq hx hb hK hP 2 1 rfl rfl (vp_in_nI (n := 4) (by decide) (by decide)) dX9_kindTold_19 ?_
          refine pp_tv (y := .ref (ad 17)) (congrArg va_rf (hjf 4 (by decide))) ?_
          have hPc := hP.sub (ws' := [(h0, .inr (7, [v0, v1, v2, v3, v4, v5, v6, v7, v8, v9, .ref e0, .int ts, .int bg, .int en, .int so, .int va, v16, .ref i0, v18, v19, v20, v21, v22, v23, v24, v25, v26, v27])), (e0, .inl (ec, 120, .inl ef))]) [0, 1] rfl
          have hKc := hK.sub (tys' := [(ec, .int)]) [0] rfl
          refine vp_callSi (W.runV (As := [.ref (ad 17)]) (rest := []) ⟨hx, hb, hml, hown, hts⟩ (m_isWord l dC dI ad h0 17 v0 v1 v2 v3 v4 v5 v6 v7 v8 v9 e0 ts bg en so va v16 (.ref i0) v18 v19 v20 v21 v22 v23 v24 v25 v26 v27 ec ef (by decide) htm hlx) (cwV 1 hts g_m_kindTold_m_isWord_231 rfl rfl rfl (by decide +kernel) ⟨(Nat.le_of_ble_eq_true rfl), (Nat.le_of_ble_eq_true rfl)⟩) ⟨preST_blind, va_recv hKc hPc (ci := 7) (q0 := 0) rfl rfl, fun U hU hW => ⟨rfl, preS_at hU hW hPc hKc hev, sf_at hsf hS (fun _ h => h.elim) hU hW⟩⟩ rfl rfl hl.1 rfl (lv_room (Nat.le_of_ble_eq_true rfl)) dX9_kindTold_20 ⟨(Nat.le_of_ble_eq_true rfl), (Nat.le_of_ble_eq_true rfl)⟩) (fun r_77 hw => ?_)
          have hr_77 : r_77.toInt = 0 ∨ (r_77.toInt = 1 ∧ so.toInt = 1) := hw
          refine lv_if_eq (tgt := 30) hx hb dX9_kindTold_23 (by decide) (fun c_78 => ?_) (fun c_78 => ?_)
          · skip
            have tc_78 : r_77.toInt = 0 := (fa_eq _ _).mp c_78
            refine lv_iload_n hx hb dX9_kindTold_30 rfl (lv_at hl 1 rfl) ?_
            refine lv_istore_n (lv' := [(1, .int 3), (2, .int 4), (0, .ref h0)]) hx hb dX9_kindTold_31 rfl hl (by decide) rfl (fun ls hl => ?_)
            refine lv_iinc (v := 5) (lv' := [(2, .int 5), (1, .int 3), (0, .ref h0)]) hx hb dX9_kindTold_32 hl (k := 1) rfl (by decide) (by decide) rfl (fun ls hl => ?_)
            refine lv_goto (tgt := 4) hx hb dX9_kindTold_35 (by decide) ?_
            refine lv_iload_n hx hb dX9_kindTold_4 rfl (lv_at hl 0 rfl) ?_
            refine lv_aload_n hx hb dX9_kindTold_5 rfl (lv_at hl 2 rfl) ?_
            refine va_get (D := (dC, dI)) (ci := 7) (v := .ref i0) (C := RX9) (T := TX9) (N := 28) hx hb hts inX9 hown hK hP 0 rfl rfl 17 (by decide) (hts _ (List.mem_of_getElem? (i := 1) rfl)) (fun _ h9 => h9) rfl dX9_kindTold_6 ?_
            refine va_alen (v := 6) hx hb hK hP 2 1 rfl rfl rfl dX9_kindTold_9 ?_
            refine lv_icmp_ge (tgt := 38) hx hb dX9_kindTold_10 (by decide) (fun c => absurd c (by decide)) (fun _ => ?_)
            refine lv_aload_n hx hb dX9_kindTold_13 rfl (lv_at hl 2 rfl) ?_
            refine lv_aload_n hx hb dX9_kindTold_14 rfl (lv_at hl 2 rfl) ?_
            refine va_get (D := (dC, dI)) (ci := 7) (v := .ref i0) (C := RX9) (T := TX9) (N := 28) hx hb hts inX9 hown hK hP 0 rfl rfl 17 (by decide) (hts _ (List.mem_of_getElem? (i := 1) rfl)) (fun _ h9 => h9) rfl dX9_kindTold_15 ?_
            refine lv_iload_n hx hb dX9_kindTold_18 rfl (lv_at hl 0 rfl) ?_
            refine va_aldq hx hb hK hP 2 1 rfl rfl (vp_in_nI (n := 5) (by decide) (by decide)) dX9_kindTold_19 ?_
            refine pp_tv (y := .ref (ad 18)) (congrArg va_rf (hjf 5 (by decide))) ?_
            have hPc := hP.sub (ws' := [(h0, .inr (7, [v0, v1, v2, v3, v4, v5, v6, v7, v8, v9, .ref e0, .int ts, .int bg, .int en, .int so, .int va, v16, .ref i0, v18, v19, v20, v21, v22, v23, v24, v25, v26, v27])), (e0, .inl (ec, 120, .inl ef))]) [0, 1] rfl
            have hKc := hK.sub (tys' := [(ec, .int)]) [0] rfl
            refine vp_callSi (W.runV (As := [.ref (ad 18)]) (rest := []) ⟨hx, hb, hml, hown, hts⟩ (m_isWord l dC dI ad h0 18 v0 v1 v2 v3 v4 v5 v6 v7 v8 v9 e0 ts bg en so va v16 (.ref i0) v18 v19 v20 v21 v22 v23 v24 v25 v26 v27 ec ef (by decide) htm hlx) (cwV 1 hts g_m_kindTold_m_isWord_231 rfl rfl rfl (by decide +kernel) ⟨(Nat.le_of_ble_eq_true rfl), (Nat.le_of_ble_eq_true rfl)⟩) ⟨preST_blind, va_recv hKc hPc (ci := 7) (q0 := 0) rfl rfl, fun U hU hW => ⟨rfl, preS_at hU hW hPc hKc hev, sf_at hsf hS (fun _ h => h.elim) hU hW⟩⟩ rfl rfl hl.1 rfl (lv_room (Nat.le_of_ble_eq_true rfl)) dX9_kindTold_20 ⟨(Nat.le_of_ble_eq_true rfl), (Nat.le_of_ble_eq_true rfl)⟩) (fun r_79 hw => ?_)
            have hr_79 : r_79.toInt = 0 ∨ (r_79.toInt = 1 ∧ so.toInt = 1) := hw
            refine lv_if_eq (tgt := 30) hx hb dX9_kindTold_23 (by decide) (fun c_80 => ?_) (fun c_80 => ?_)
            · skip
              have tc_80 : r_79.toInt = 0 := (fa_eq _ _).mp c_80
              refine lv_iload_n hx hb dX9_kindTold_30 rfl (lv_at hl 1 rfl) ?_
              refine lv_istore_n (lv' := [(1, .int 3), (2, .int 5), (0, .ref h0)]) hx hb dX9_kindTold_31 rfl hl (by decide) rfl (fun ls hl => ?_)
              refine lv_iinc (v := 6) (lv' := [(2, .int 6), (1, .int 3), (0, .ref h0)]) hx hb dX9_kindTold_32 hl (k := 1) rfl (by decide) (by decide) rfl (fun ls hl => ?_)
              refine lv_goto (tgt := 4) hx hb dX9_kindTold_35 (by decide) ?_
              refine lv_iload_n hx hb dX9_kindTold_4 rfl (lv_at hl 0 rfl) ?_
              refine lv_aload_n hx hb dX9_kindTold_5 rfl (lv_at hl 2 rfl) ?_
              refine va_get (D := (dC, dI)) (ci := 7) (v := .ref i0) (C := RX9) (T := TX9) (N := 28) hx hb hts inX9 hown hK hP 0 rfl rfl 17 (by decide) (hts _ (List.mem_of_getElem? (i := 1) rfl)) (fun _ h9 => h9) rfl dX9_kindTold_6 ?_
              refine va_alen (v := 6) hx hb hK hP 2 1 rfl rfl rfl dX9_kindTold_9 ?_
              refine lv_icmp_ge (tgt := 38) hx hb dX9_kindTold_10 (by decide) (fun _ => ?_) (fun c => absurd (by decide) c)
              refine lv_iload_n hx hb dX9_kindTold_38 rfl (lv_at hl 1 rfl) ?_
              exact W.iret (v := (3 : Int32)) hx hb hr (fun t ht hW => ⟨(3 : Int32), rfl, (by first | omega | decide | (simp only [fa_lt, fa_le, fa_eq, and_true, true_and, and_false, false_and, not_true_eq_false, not_false_eq_true, li_0, li_1, li_2, li_3, li_4, li_5, li_6, li_7, li_8, li_9, li_10, li_12, li_15, li_16, li_20, li_30, li_34, li_38, li_40, li_63, li_64, li_65, li_78, li_120, li_1000, li_4000, li_10000, li_11077, li_255, li_65535, li_m1, li_m2, li_m1000000001, li_m1000000002, li_m1000000003, li_m1000000004, li_m1000000005, li_m1000000006, li_m1000000007, or_true, true_or, or_false, false_or, implies_true, true_implies, false_implies] <;> omega)), ht⟩) (fun _ h => absurd h List.not_mem_nil) dX9_kindTold_39
            · skip
              have tc_80 : ¬ r_79.toInt = 0 := fun h => c_80 ((fa_eq _ _).mpr h)
              refine lv_iload_n hx hb dX9_kindTold_26 rfl (lv_at hl 0 rfl) ?_
              refine lv_goto (tgt := 31) hx hb dX9_kindTold_27 (by decide) ?_
              refine lv_istore_n (lv' := [(1, .int 5), (2, .int 5), (0, .ref h0)]) hx hb dX9_kindTold_31 rfl hl (by decide) rfl (fun ls hl => ?_)
              refine lv_iinc (v := 6) (lv' := [(2, .int 6), (1, .int 5), (0, .ref h0)]) hx hb dX9_kindTold_32 hl (k := 1) rfl (by decide) (by decide) rfl (fun ls hl => ?_)
              refine lv_goto (tgt := 4) hx hb dX9_kindTold_35 (by decide) ?_
              refine lv_iload_n hx hb dX9_kindTold_4 rfl (lv_at hl 0 rfl) ?_
              refine lv_aload_n hx hb dX9_kindTold_5 rfl (lv_at hl 2 rfl) ?_
              refine va_get (D := (dC, dI)) (ci := 7) (v := .ref i0) (C := RX9) (T := TX9) (N := 28) hx hb hts inX9 hown hK hP 0 rfl rfl 17 (by decide) (hts _ (List.mem_of_getElem? (i := 1) rfl)) (fun _ h9 => h9) rfl dX9_kindTold_6 ?_
              refine va_alen (v := 6) hx hb hK hP 2 1 rfl rfl rfl dX9_kindTold_9 ?_
              refine lv_icmp_ge (tgt := 38) hx hb dX9_kindTold_10 (by decide) (fun _ => ?_) (fun c => absurd (by decide) c)
              refine lv_iload_n hx hb dX9_kindTold_38 rfl (lv_at hl 1 rfl) ?_
              exact W.iret (v := (5 : Int32)) hx hb hr (fun t ht hW => ⟨(5 : Int32), rfl, (by first | omega | decide | (simp only [fa_lt, fa_le, fa_eq, and_true, true_and, and_false, false_and, not_true_eq_false, not_false_eq_true, li_0, li_1, li_2, li_3, li_4, li_5, li_6, li_7, li_8, li_9, li_10, li_12, li_15, li_16, li_20, li_30, li_34, li_38, li_40, li_63, li_64, li_65, li_78, li_120, li_1000, li_4000, li_10000, li_11077, li_255, li_65535, li_m1, li_m2, li_m1000000001, li_m1000000002, li_m1000000003, li_m1000000004, li_m1000000005, li_m1000000006, li_m1000000007, or_true, true_or, or_false, false_or, implies_true, true_implies, false_implies] <;> omega)), ht⟩) (fun _ h => absurd h List.not_mem_nil) dX9_kindTold_39
          · skip
            have tc_78 : ¬ r_77.toInt = 0 := fun h => c_78 ((fa_eq _ _).mpr h)
            refine lv_iload_n hx hb dX9_kindTold_26 rfl (lv_at hl 0 rfl) ?_
            refine lv_goto (tgt := 31) hx hb dX9_kindTold_27 (by decide) ?_
            refine lv_istore_n (lv' := [(1, .int 4), (2, .int 4), (0, .ref h0)]) hx hb dX9_kindTold_31 rfl hl (by decide) rfl (fun ls hl => ?_)
            refine lv_iinc (v := 5) (lv' := [(2, .int 5), (1, .int 4), (0, .ref h0)]) hx hb dX9_kindTold_32 hl (k := 1) rfl (by decide) (by decide) rfl (fun ls hl => ?_)
            refine lv_goto (tgt := 4) hx hb dX9_kindTold_35 (by decide) ?_
            refine lv_iload_n hx hb dX9_kindTold_4 rfl (lv_at hl 0 rfl) ?_
            refine lv_aload_n hx hb dX9_kindTold_5 rfl (lv_at hl 2 rfl) ?_
            refine va_get (D := (dC, dI)) (ci := 7) (v := .ref i0) (C := RX9) (T := TX9) (N := 28) hx hb hts inX9 hown hK hP 0 rfl rfl 17 (by decide) (hts _ (List.mem_of_getElem? (i := 1) rfl)) (fun _ h9 => h9) rfl dX9_kindTold_6 ?_
            refine va_alen (v := 6) hx hb hK hP 2 1 rfl rfl rfl dX9_kindTold_9 ?_
            refine lv_icmp_ge (tgt := 38) hx hb dX9_kindTold_10 (by decide) (fun c => absurd c (by decide)) (fun _ => ?_)
            refine lv_aload_n hx hb dX9_kindTold_13 rfl (lv_at hl 2 rfl) ?_
            refine lv_aload_n hx hb dX9_kindTold_14 rfl (lv_at hl 2 rfl) ?_
            refine va_get (D := (dC, dI)) (ci := 7) (v := .ref i0) (C := RX9) (T := TX9) (N := 28) hx hb hts inX9 hown hK hP 0 rfl rfl 17 (by decide) (hts _ (List.mem_of_getElem? (i := 1) rfl)) (fun _ h9 => h9) rfl dX9_kindTold_15 ?_
            refine lv_iload_n hx hb dX9_kindTold_18 rfl (lv_at hl 0 rfl) ?_
            refine va_aldq hx hb hK hP 2 1 rfl rfl (vp_in_nI (n := 5) (by decide) (by decide)) dX9_kindTold_19 ?_
            refine pp_tv (y := .ref (ad 18)) (congrArg va_rf (hjf 5 (by decide))) ?_
            have hPc := hP.sub (ws' := [(h0, .inr (7, [v0, v1, v2, v3, v4, v5, v6, v7, v8, v9, .ref e0, .int ts, .int bg, .int en, .int so, .int va, v16, .ref i0, v18, v19, v20, v21, v22, v23, v24, v25, v26, v27])), (e0, .inl (ec, 120, .inl ef))]) [0, 1] rfl
            have hKc := hK.sub (tys' := [(ec, .int)]) [0] rfl
            refine vp_callSi (W.runV (As := [.ref (ad 18)]) (rest := []) ⟨hx, hb, hml, hown, hts⟩ (m_isWord l dC dI ad h0 18 v0 v1 v2 v3 v4 v5 v6 v7 v8 v9 e0 ts bg en so va v16 (.ref i0) v18 v19 v20 v21 v22 v23 v24 v25 v26 v27 ec ef (by decide) htm hlx) (cwV 1 hts g_m_kindTold_m_isWord_231 rfl rfl rfl (by decide +kernel) ⟨(Nat.le_of_ble_eq_true rfl), (Nat.le_of_ble_eq_true rfl)⟩) ⟨preST_blind, va_recv hKc hPc (ci := 7) (q0 := 0) rfl rfl, fun U hU hW => ⟨rfl, preS_at hU hW hPc hKc hev, sf_at hsf hS (fun _ h => h.elim) hU hW⟩⟩ rfl rfl hl.1 rfl (lv_room (Nat.le_of_ble_eq_true rfl)) dX9_kindTold_20 ⟨(Nat.le_of_ble_eq_true rfl), (Nat.le_of_ble_eq_true rfl)⟩) (fun r_81 hw => ?_)
            have hr_81 : r_81.toInt = 0 ∨ (r_81.toInt = 1 ∧ so.toInt = 1) := hw
            refine lv_if_eq (tgt := 30) hx hb dX9_kindTold_23 (by decide) (fun c_82 => ?_) (fun c_82 => ?_)
            · skip
              have tc_82 : r_81.toInt = 0 := (fa_eq _ _).mp c_82
              refine lv_iload_n hx hb dX9_kindTold_30 rfl (lv_at hl 1 rfl) ?_
              refine lv_istore_n (lv' := [(1, .int 4), (2, .int 5), (0, .ref h0)]) hx hb dX9_kindTold_31 rfl hl (by decide) rfl (fun ls hl => ?_)
              refine lv_iinc (v := 6) (lv' := [(2, .int 6), (1, .int 4), (0, .ref h0)]) hx hb dX9_kindTold_32 hl (k := 1) rfl (by decide) (by decide) rfl (fun ls hl => ?_)
              refine lv_goto (tgt := 4) hx hb dX9_kindTold_35 (by decide) ?_
              refine lv_iload_n hx hb dX9_kindTold_4 rfl (lv_at hl 0 rfl) ?_
              refine lv_aload_n hx hb dX9_kindTold_5 rfl (lv_at hl 2 rfl) ?_
              refine va_get (D := (dC, dI)) (ci := 7) (v := .ref i0) (C := RX9) (T := TX9) (N := 28) hx hb hts inX9 hown hK hP 0 rfl rfl 17 (by decide) (hts _ (List.mem_of_getElem? (i := 1) rfl)) (fun _ h9 => h9) rfl dX9_kindTold_6 ?_
              refine va_alen (v := 6) hx hb hK hP 2 1 rfl rfl rfl dX9_kindTold_9 ?_
              refine lv_icmp_ge (tgt := 38) hx hb dX9_kindTold_10 (by decide) (fun _ => ?_) (fun c => absurd (by decide) c)
              refine lv_iload_n hx hb dX9_kindTold_38 rfl (lv_at hl 1 rfl) ?_
              exact W.iret (v := (4 : Int32)) hx hb hr (fun t ht hW => ⟨(4 : Int32), rfl, (by first | omega | decide | (simp only [fa_lt, fa_le, fa_eq, and_true, true_and, and_false, false_and, not_true_eq_false, not_false_eq_true, li_0, li_1, li_2, li_3, li_4, li_5, li_6, li_7, li_8, li_9, li_10, li_12, li_15, li_16, li_20, li_30, li_34, li_38, li_40, li_63, li_64, li_65, li_78, li_120, li_1000, li_4000, li_10000, li_11077, li_255, li_65535, li_m1, li_m2, li_m1000000001, li_m1000000002, li_m1000000003, li_m1000000004, li_m1000000005, li_m1000000006, li_m1000000007, or_true, true_or, or_false, false_or, implies_true, true_implies, false_implies] <;> omega)), ht⟩) (fun _ h => absurd h List.not_mem_nil) dX9_kindTold_39
            · skip
              have tc_82 : ¬ r_81.toInt = 0 := fun h => c_82 ((fa_eq _ _).mpr h)
              refine lv_iload_n hx hb dX9_kindTold_26 rfl (lv_at hl 0 rfl) ?_
              refine lv_goto (tgt := 31) hx hb dX9_kindTold_27 (by decide) ?_
              refine lv_istore_n (lv' := [(1, .int 5), (2, .int 5), (0, .ref h0)]) hx hb dX9_kindTold_31 rfl hl (by decide) rfl (fun ls hl => ?_)
              refine lv_iinc (v := 6) (lv' := [(2, .int 6), (1, .int 5), (0, .ref h0)]) hx hb dX9_kindTold_32 hl (k := 1) rfl (by decide) (by decide) rfl (fun ls hl => ?_)
              refine lv_goto (tgt := 4) hx hb dX9_kindTold_35 (by decide) ?_
              refine lv_iload_n hx hb dX9_kindTold_4 rfl (lv_at hl 0 rfl) ?_
              refine lv_aload_n hx hb dX9_kindTold_5 rfl (lv_at hl 2 rfl) ?_
              refine va_get (D := (dC, dI)) (ci := 7) (v := .ref i0) (C := RX9) (T := TX9) (N := 28) hx hb hts inX9 hown hK hP 0 rfl rfl 17 (by decide) (hts _ (List.mem_of_getElem? (i := 1) rfl)) (fun _ h9 => h9) rfl dX9_kindTold_6 ?_
              refine va_alen (v := 6) hx hb hK hP 2 1 rfl rfl rfl dX9_kindTold_9 ?_
              refine lv_icmp_ge (tgt := 38) hx hb dX9_kindTold_10 (by decide) (fun _ => ?_) (fun c => absurd (by decide) c)
              refine lv_iload_n hx hb dX9_kindTold_38 rfl (lv_at hl 1 rfl) ?_
              exact W.iret (v := (5 : Int32)) hx hb hr (fun t ht hW => ⟨(5 : Int32), rfl, (by first | omega | decide | (simp only [fa_lt, fa_le, fa_eq, and_true, true_and, and_false, false_and, not_true_eq_false, not_false_eq_true, li_0, li_1, li_2, li_3, li_4, li_5, li_6, li_7, li_8, li_9, li_10, li_12, li_15, li_16, li_20, li_30, li_34, li_38, li_40, li_63, li_64, li_65, li_78, li_120, li_1000, li_4000, li_10000, li_11077, li_255, li_65535, li_m1, li_m2, li_m1000000001, li_m1000000002, li_m1000000003, li_m1000000004, li_m1000000005, li_m1000000006, li_m1000000007, or_true, true_or, or_false, false_or, implies_true, true_implies, false_implies] <;> omega)), ht⟩) (fun _ h => absurd h List.not_mem_nil) dX9_kindTold_39
      · skip
        have tc_68 : ¬ r_67.toInt = 0 := fun h => c_68 ((fa_eq _ _).mpr h)
        refine lv_iload_n hx hb dX9_kindTold_26 rfl (lv_at hl 0 rfl) ?_
        refine lv_goto (tgt := 31) hx hb dX9_kindTold_27 (by decide) ?_
        refine lv_istore_n (lv' := [(1, .int 2), (2, .int 2), (0, .ref h0)]) hx hb dX9_kindTold_31 rfl hl (by decide) rfl (fun ls hl => ?_)
        refine lv_iinc (v := 3) (lv' := [(2, .int 3), (1, .int 2), (0, .ref h0)]) hx hb dX9_kindTold_32 hl (k := 1) rfl (by decide) (by decide) rfl (fun ls hl => ?_)
        refine lv_goto (tgt := 4) hx hb dX9_kindTold_35 (by decide) ?_
        refine lv_iload_n hx hb dX9_kindTold_4 rfl (lv_at hl 0 rfl) ?_
        refine lv_aload_n hx hb dX9_kindTold_5 rfl (lv_at hl 2 rfl) ?_
        refine va_get (D := (dC, dI)) (ci := 7) (v := .ref i0) (C := RX9) (T := TX9) (N := 28) hx hb hts inX9 hown hK hP 0 rfl rfl 17 (by decide) (hts _ (List.mem_of_getElem? (i := 1) rfl)) (fun _ h9 => h9) rfl dX9_kindTold_6 ?_
        refine va_alen (v := 6) hx hb hK hP 2 1 rfl rfl rfl dX9_kindTold_9 ?_
        refine lv_icmp_ge (tgt := 38) hx hb dX9_kindTold_10 (by decide) (fun c => absurd c (by decide)) (fun _ => ?_)
        refine lv_aload_n hx hb dX9_kindTold_13 rfl (lv_at hl 2 rfl) ?_
        refine lv_aload_n hx hb dX9_kindTold_14 rfl (lv_at hl 2 rfl) ?_
        refine va_get (D := (dC, dI)) (ci := 7) (v := .ref i0) (C := RX9) (T := TX9) (N := 28) hx hb hts inX9 hown hK hP 0 rfl rfl 17 (by decide) (hts _ (List.mem_of_getElem? (i := 1) rfl)) (fun _ h9 => h9) rfl dX9_kindTold_15 ?_
        refine lv_iload_n hx hb dX9_kindTold_18 rfl (lv_at hl 0 rfl) ?_
        refine va_aldq hx hb hK hP 2 1 rfl rfl (vp_in_nI (n := 3) (by decide) (by decide)) dX9_kindTold_19 ?_
        refine pp_tv (y := .ref (ad 16)) (congrArg va_rf (hjf 3 (by decide))) ?_
        have hPc := hP.sub (ws' := [(h0, .inr (7, [v0, v1, v2, v3, v4, v5, v6, v7, v8, v9, .ref e0, .int ts, .int bg, .int en, .int so, .int va, v16, .ref i0, v18, v19, v20, v21, v22, v23, v24, v25, v26, v27])), (e0, .inl (ec, 120, .inl ef))]) [0, 1] rfl
        have hKc := hK.sub (tys' := [(ec, .int)]) [0] rfl
        refine vp_callSi (W.runV (As := [.ref (ad 16)]) (rest := []) ⟨hx, hb, hml, hown, hts⟩ (m_isWord l dC dI ad h0 16 v0 v1 v2 v3 v4 v5 v6 v7 v8 v9 e0 ts bg en so va v16 (.ref i0) v18 v19 v20 v21 v22 v23 v24 v25 v26 v27 ec ef (by decide) htm hlx) (cwV 1 hts g_m_kindTold_m_isWord_231 rfl rfl rfl (by decide +kernel) ⟨(Nat.le_of_ble_eq_true rfl), (Nat.le_of_ble_eq_true rfl)⟩) ⟨preST_blind, va_recv hKc hPc (ci := 7) (q0 := 0) rfl rfl, fun U hU hW => ⟨rfl, preS_at hU hW hPc hKc hev, sf_at hsf hS (fun _ h => h.elim) hU hW⟩⟩ rfl rfl hl.1 rfl (lv_room (Nat.le_of_ble_eq_true rfl)) dX9_kindTold_20 ⟨(Nat.le_of_ble_eq_true rfl), (Nat.le_of_ble_eq_true rfl)⟩) (fun r_83 hw => ?_)
        have hr_83 : r_83.toInt = 0 ∨ (r_83.toInt = 1 ∧ so.toInt = 1) := hw
        refine lv_if_eq (tgt := 30) hx hb dX9_kindTold_23 (by decide) (fun c_84 => ?_) (fun c_84 => ?_)
        · skip
          have tc_84 : r_83.toInt = 0 := (fa_eq _ _).mp c_84
          refine lv_iload_n hx hb dX9_kindTold_30 rfl (lv_at hl 1 rfl) ?_
          refine lv_istore_n (lv' := [(1, .int 2), (2, .int 3), (0, .ref h0)]) hx hb dX9_kindTold_31 rfl hl (by decide) rfl (fun ls hl => ?_)
          refine lv_iinc (v := 4) (lv' := [(2, .int 4), (1, .int 2), (0, .ref h0)]) hx hb dX9_kindTold_32 hl (k := 1) rfl (by decide) (by decide) rfl (fun ls hl => ?_)
          refine lv_goto (tgt := 4) hx hb dX9_kindTold_35 (by decide) ?_
          refine lv_iload_n hx hb dX9_kindTold_4 rfl (lv_at hl 0 rfl) ?_
          refine lv_aload_n hx hb dX9_kindTold_5 rfl (lv_at hl 2 rfl) ?_
          refine va_get (D := (dC, dI)) (ci := 7) (v := .ref i0) (C := RX9) (T := TX9) (N := 28) hx hb hts inX9 hown hK hP 0 rfl rfl 17 (by decide) (hts _ (List.mem_of_getElem? (i := 1) rfl)) (fun _ h9 => h9) rfl dX9_kindTold_6 ?_
          refine va_alen (v := 6) hx hb hK hP 2 1 rfl rfl rfl dX9_kindTold_9 ?_
          refine lv_icmp_ge (tgt := 38) hx hb dX9_kindTold_10 (by decide) (fun c => absurd c (by decide)) (fun _ => ?_)
          refine lv_aload_n hx hb dX9_kindTold_13 rfl (lv_at hl 2 rfl) ?_
          refine lv_aload_n hx hb dX9_kindTold_14 rfl (lv_at hl 2 rfl) ?_
          refine va_get (D := (dC, dI)) (ci := 7) (v := .ref i0) (C := RX9) (T := TX9) (N := 28) hx hb hts inX9 hown hK hP 0 rfl rfl 17 (by decide) (hts _ (List.mem_of_getElem? (i := 1) rfl)) (fun _ h9 => h9) rfl dX9_kindTold_15 ?_
          refine lv_iload_n hx hb dX9_kindTold_18 rfl (lv_at hl 0 rfl) ?_
          refine va_aldq hx hb hK hP 2 1 rfl rfl (vp_in_nI (n := 4) (by decide) (by decide)) dX9_kindTold_19 ?_
          refine pp_tv (y := .ref (ad 17)) (congrArg va_rf (hjf 4 (by decide))) ?_
          have hPc := hP.sub (ws' := [(h0, .inr (7, [v0, v1, v2, v3, v4, v5, v6, v7, v8, v9, .ref e0, .int ts, .int bg, .int en, .int so, .int va, v16, .ref i0, v18, v19, v20, v21, v22, v23, v24, v25, v26, v27])), (e0, .inl (ec, 120, .inl ef))]) [0, 1] rfl
          have hKc := hK.sub (tys' := [(ec, .int)]) [0] rfl
          refine vp_callSi (W.runV (As := [.ref (ad 17)]) (rest := []) ⟨hx, hb, hml, hown, hts⟩ (m_isWord l dC dI ad h0 17 v0 v1 v2 v3 v4 v5 v6 v7 v8 v9 e0 ts bg en so va v16 (.ref i0) v18 v19 v20 v21 v22 v23 v24 v25 v26 v27 ec ef (by decide) htm hlx) (cwV 1 hts g_m_kindTold_m_isWord_231 rfl rfl rfl (by decide +kernel) ⟨(Nat.le_of_ble_eq_true rfl), (Nat.le_of_ble_eq_true rfl)⟩) ⟨preST_blind, va_recv hKc hPc (ci := 7) (q0 := 0) rfl rfl, fun U hU hW => ⟨rfl, preS_at hU hW hPc hKc hev, sf_at hsf hS (fun _ h => h.elim) hU hW⟩⟩ rfl rfl hl.1 rfl (lv_room (Nat.le_of_ble_eq_true rfl)) dX9_kindTold_20 ⟨(Nat.le_of_ble_eq_true rfl), (Nat.le_of_ble_eq_true rfl)⟩) (fun r_85 hw => ?_)
          have hr_85 : r_85.toInt = 0 ∨ (r_85.toInt = 1 ∧ so.toInt = 1) := hw
          refine lv_if_eq (tgt := 30) hx hb dX9_kindTold_23 (by decide) (fun c_86 => ?_) (fun c_86 => ?_)
          · skip
            have tc_86 : r_85.toInt = 0 := (fa_eq _ _).mp c_86
            refine lv_iload_n hx hb dX9_kindTold_30 rfl (lv_at hl 1 rfl) ?_
            refine lv_istore_n (lv' := [(1, .int 2), (2, .int 4), (0, .ref h0)]) hx hb dX9_kindTold_31 rfl hl (by decide) rfl (fun ls hl => ?_)
            refine lv_iinc (v := 5) (lv' := [(2, .int 5), (1, .int 2), (0, .ref h0)]) hx hb dX9_kindTold_32 hl (k := 1) rfl (by decide) (by decide) rfl (fun ls hl => ?_)
            refine lv_goto (tgt := 4) hx hb dX9_kindTold_35 (by decide) ?_
            refine lv_iload_n hx hb dX9_kindTold_4 rfl (lv_at hl 0 rfl) ?_
            refine lv_aload_n hx hb dX9_kindTold_5 rfl (lv_at hl 2 rfl) ?_
            refine va_get (D := (dC, dI)) (ci := 7) (v := .ref i0) (C := RX9) (T := TX9) (N := 28) hx hb hts inX9 hown hK hP 0 rfl rfl 17 (by decide) (hts _ (List.mem_of_getElem? (i := 1) rfl)) (fun _ h9 => h9) rfl dX9_kindTold_6 ?_
            refine va_alen (v := 6) hx hb hK hP 2 1 rfl rfl rfl dX9_kindTold_9 ?_
            refine lv_icmp_ge (tgt := 38) hx hb dX9_kindTold_10 (by decide) (fun c => absurd c (by decide)) (fun _ => ?_)
            refine lv_aload_n hx hb dX9_kindTold_13 rfl (lv_at hl 2 rfl) ?_
            refine lv_aload_n hx hb dX9_kindTold_14 rfl (lv_at hl 2 rfl) ?_
            refine va_get (D := (dC, dI)) (ci := 7) (v := .ref i0) (C := RX9) (T := TX9) (N := 28) hx hb hts inX9 hown hK hP 0 rfl rfl 17 (by decide) (hts _ (List.mem_of_getElem? (i := 1) rfl)) (fun _ h9 => h9) rfl dX9_kindTold_15 ?_
            refine lv_iload_n hx hb dX9_kindTold_18 rfl (lv_at hl 0 rfl) ?_
            refine va_aldq hx hb hK hP 2 1 rfl rfl (vp_in_nI (n := 5) (by decide) (by decide)) dX9_kindTold_19 ?_
            refine pp_tv (y := .ref (ad 18)) (congrArg va_rf (hjf 5 (by decide))) ?_
            have hPc := hP.sub (ws' := [(h0, .inr (7, [v0, v1, v2, v3, v4, v5, v6, v7, v8, v9, .ref e0, .int ts, .int bg, .int en, .int so, .int va, v16, .ref i0, v18, v19, v20, v21, v22, v23, v24, v25, v26, v27])), (e0, .inl (ec, 120, .inl ef))]) [0, 1] rfl
            have hKc := hK.sub (tys' := [(ec, .int)]) [0] rfl
            refine vp_callSi (W.runV (As := [.ref (ad 18)]) (rest := []) ⟨hx, hb, hml, hown, hts⟩ (m_isWord l dC dI ad h0 18 v0 v1 v2 v3 v4 v5 v6 v7 v8 v9 e0 ts bg en so va v16 (.ref i0) v18 v19 v20 v21 v22 v23 v24 v25 v26 v27 ec ef (by decide) htm hlx) (cwV 1 hts g_m_kindTold_m_isWord_231 rfl rfl rfl (by decide +kernel) ⟨(Nat.le_of_ble_eq_true rfl), (Nat.le_of_ble_eq_true rfl)⟩) ⟨preST_blind, va_recv hKc hPc (ci := 7) (q0 := 0) rfl rfl, fun U hU hW => ⟨rfl, preS_at hU hW hPc hKc hev, sf_at hsf hS (fun _ h => h.elim) hU hW⟩⟩ rfl rfl hl.1 rfl (lv_room (Nat.le_of_ble_eq_true rfl)) dX9_kindTold_20 ⟨(Nat.le_of_ble_eq_true rfl), (Nat.le_of_ble_eq_true rfl)⟩) (fun r_87 hw => ?_)
            have hr_87 : r_87.toInt = 0 ∨ (r_87.toInt = 1 ∧ so.toInt = 1) := hw
            refine lv_if_eq (tgt := 30) hx hb dX9_kindTold_23 (by decide) (fun c_88 => ?_) (fun c_88 => ?_)
            · skip
              have tc_88 : r_87.toInt = 0 := (fa_eq _ _).mp c_88
              refine lv_iload_n hx hb dX9_kindTold_30 rfl (lv_at hl 1 rfl) ?_
              refine lv_istore_n (lv' := [(1, .int 2), (2, .int 5), (0, .ref h0)]) hx hb dX9_kindTold_31 rfl hl (by decide) rfl (fun ls hl => ?_)
              refine lv_iinc (v := 6) (lv' := [(2, .int 6), (1, .int 2), (0, .ref h0)]) hx hb dX9_kindTold_32 hl (k := 1) rfl (by decide) (by decide) rfl (fun ls hl => ?_)
              refine lv_goto (tgt := 4) hx hb dX9_kindTold_35 (by decide) ?_
              refine lv_iload_n hx hb dX9_kindTold_4 rfl (lv_at hl 0 rfl) ?_
              refine lv_aload_n hx hb dX9_kindTold_5 rfl (lv_at hl 2 rfl) ?_
              refine va_get (D := (dC, dI)) (ci := 7) (v := .ref i0) (C := RX9) (T := TX9) (N := 28) hx hb hts inX9 hown hK hP 0 rfl rfl 17 (by decide) (hts _ (List.mem_of_getElem? (i := 1) rfl)) (fun _ h9 => h9) rfl dX9_kindTold_6 ?_
              refine va_alen (v := 6) hx hb hK hP 2 1 rfl rfl rfl dX9_kindTold_9 ?_
              refine lv_icmp_ge (tgt := 38) hx hb dX9_kindTold_10 (by decide) (fun _ => ?_) (fun c => absurd (by decide) c)
              refine lv_iload_n hx hb dX9_kindTold_38 rfl (lv_at hl 1 rfl) ?_
              exact W.iret (v := (2 : Int32)) hx hb hr (fun t ht hW => ⟨(2 : Int32), rfl, (by first | omega | decide | (simp only [fa_lt, fa_le, fa_eq, and_true, true_and, and_false, false_and, not_true_eq_false, not_false_eq_true, li_0, li_1, li_2, li_3, li_4, li_5, li_6, li_7, li_8, li_9, li_10, li_12, li_15, li_16, li_20, li_30, li_34, li_38, li_40, li_63, li_64, li_65, li_78, li_120, li_1000, li_4000, li_10000, li_11077, li_255, li_65535, li_m1, li_m2, li_m1000000001, li_m1000000002, li_m1000000003, li_m1000000004, li_m1000000005, li_m1000000006, li_m1000000007, or_true, true_or, or_false, false_or, implies_true, true_implies, false_implies] <;> omega)), ht⟩) (fun _ h => absurd h List.not_mem_nil) dX9_kindTold_39
            · skip
              have tc_88 : ¬ r_87.toInt = 0 := fun h => c_88 ((fa_eq _ _).mpr h)
              refine lv_iload_n hx hb dX9_kindTold_26 rfl (lv_at hl 0 rfl) ?_
              refine lv_goto (tgt := 31) hx hb dX9_kindTold_27 (by decide) ?_
              refine lv_istore_n (lv' := [(1, .int 5), (2, .int 5), (0, .ref h0)]) hx hb dX9_kindTold_31 rfl hl (by decide) rfl (fun ls hl => ?_)
              refine lv_iinc (v := 6) (lv' := [(2, .int 6), (1, .int 5), (0, .ref h0)]) hx hb dX9_kindTold_32 hl (k := 1) rfl (by decide) (by decide) rfl (fun ls hl => ?_)
              refine lv_goto (tgt := 4) hx hb dX9_kindTold_35 (by decide) ?_
              refine lv_iload_n hx hb dX9_kindTold_4 rfl (lv_at hl 0 rfl) ?_
              refine lv_aload_n hx hb dX9_kindTold_5 rfl (lv_at hl 2 rfl) ?_
              refine va_get (D := (dC, dI)) (ci := 7) (v := .ref i0) (C := RX9) (T := TX9) (N := 28) hx hb hts inX9 hown hK hP 0 rfl rfl 17 (by decide) (hts _ (List.mem_of_getElem? (i := 1) rfl)) (fun _ h9 => h9) rfl dX9_kindTold_6 ?_
              refine va_alen (v := 6) hx hb hK hP 2 1 rfl rfl rfl dX9_kindTold_9 ?_
              refine lv_icmp_ge (tgt := 38) hx hb dX9_kindTold_10 (by decide) (fun _ => ?_) (fun c => absurd (by decide) c)
              refine lv_iload_n hx hb dX9_kindTold_38 rfl (lv_at hl 1 rfl) ?_
              exact W.iret (v := (5 : Int32)) hx hb hr (fun t ht hW => ⟨(5 : Int32), rfl, (by first | omega | decide | (simp only [fa_lt, fa_le, fa_eq, and_true, true_and, and_false, false_and, not_true_eq_false, not_false_eq_true, li_0, li_1, li_2, li_3, li_4, li_5, li_6, li_7, li_8, li_9, li_10, li_12, li_15, li_16, li_20, li_30, li_34, li_38, li_40, li_63, li_64, li_65, li_78, li_120, li_1000, li_4000, li_10000, li_11077, li_255, li_65535, li_m1, li_m2, li_m1000000001, li_m1000000002, li_m1000000003, li_m1000000004, li_m1000000005, li_m1000000006, li_m1000000007, or_true, true_or, or_false, false_or, implies_true, true_implies, false_implies] <;> omega)), ht⟩) (fun _ h => absurd h List.not_mem_nil) dX9_kindTold_39
          · skip
            have tc_86 : ¬ r_85.toInt = 0 := fun h => c_86 ((fa_eq _ _).mpr h)
            refine lv_iload_n hx hb dX9_kindTold_26 rfl (lv_at hl 0 rfl) ?_
            refine lv_goto (tgt := 31) hx hb dX9_kindTold_27 (by decide) ?_
            refine lv_istore_n (lv' := [(1, .int 4), (2, .int 4), (0, .ref h0)]) hx hb dX9_kindTold_31 rfl hl (by decide) rfl (fun ls hl => ?_)
            refine lv_iinc (v := 5) (lv' := [(2, .int 5), (1, .int 4), (0, .ref h0)]) hx hb dX9_kindTold_32 hl (k := 1) rfl (by decide) (by decide) rfl (fun ls hl => ?_)
            refine lv_goto (tgt := 4) hx hb dX9_kindTold_35 (by decide) ?_
            refine lv_iload_n hx hb dX9_kindTold_4 rfl (lv_at hl 0 rfl) ?_
            refine lv_aload_n hx hb dX9_kindTold_5 rfl (lv_at hl 2 rfl) ?_
            refine va_get (D := (dC, dI)) (ci := 7) (v := .ref i0) (C := RX9) (T := TX9) (N := 28) hx hb hts inX9 hown hK hP 0 rfl rfl 17 (by decide) (hts _ (List.mem_of_getElem? (i := 1) rfl)) (fun _ h9 => h9) rfl dX9_kindTold_6 ?_
            refine va_alen (v := 6) hx hb hK hP 2 1 rfl rfl rfl dX9_kindTold_9 ?_
            refine lv_icmp_ge (tgt := 38) hx hb dX9_kindTold_10 (by decide) (fun c => absurd c (by decide)) (fun _ => ?_)
            refine lv_aload_n hx hb dX9_kindTold_13 rfl (lv_at hl 2 rfl) ?_
            refine lv_aload_n hx hb dX9_kindTold_14 rfl (lv_at hl 2 rfl) ?_
            refine va_get (D := (dC, dI)) (ci := 7) (v := .ref i0) (C := RX9) (T := TX9) (N := 28) hx hb hts inX9 hown hK hP 0 rfl rfl 17 (by decide) (hts _ (List.mem_of_getElem? (i := 1) rfl)) (fun _ h9 => h9) rfl dX9_kindTold_15 ?_
            refine lv_iload_n hx hb dX9_kindTold_18 rfl (lv_at hl 0 rfl) ?_
            refine va_aldq hx hb hK hP 2 1 rfl rfl (vp_in_nI (n := 5) (by decide) (by decide)) dX9_kindTold_19 ?_
            refine pp_tv (y := .ref (ad 18)) (congrArg va_rf (hjf 5 (by decide))) ?_
            have hPc := hP.sub (ws' := [(h0, .inr (7, [v0, v1, v2, v3, v4, v5, v6, v7, v8, v9, .ref e0, .int ts, .int bg, .int en, .int so, .int va, v16, .ref i0, v18, v19, v20, v21, v22, v23, v24, v25, v26, v27])), (e0, .inl (ec, 120, .inl ef))]) [0, 1] rfl
            have hKc := hK.sub (tys' := [(ec, .int)]) [0] rfl
            refine vp_callSi (W.runV (As := [.ref (ad 18)]) (rest := []) ⟨hx, hb, hml, hown, hts⟩ (m_isWord l dC dI ad h0 18 v0 v1 v2 v3 v4 v5 v6 v7 v8 v9 e0 ts bg en so va v16 (.ref i0) v18 v19 v20 v21 v22 v23 v24 v25 v26 v27 ec ef (by decide) htm hlx) (cwV 1 hts g_m_kindTold_m_isWord_231 rfl rfl rfl (by decide +kernel) ⟨(Nat.le_of_ble_eq_true rfl), (Nat.le_of_ble_eq_true rfl)⟩) ⟨preST_blind, va_recv hKc hPc (ci := 7) (q0 := 0) rfl rfl, fun U hU hW => ⟨rfl, preS_at hU hW hPc hKc hev, sf_at hsf hS (fun _ h => h.elim) hU hW⟩⟩ rfl rfl hl.1 rfl (lv_room (Nat.le_of_ble_eq_true rfl)) dX9_kindTold_20 ⟨(Nat.le_of_ble_eq_true rfl), (Nat.le_of_ble_eq_true rfl)⟩) (fun r_89 hw => ?_)
            have hr_89 : r_89.toInt = 0 ∨ (r_89.toInt = 1 ∧ so.toInt = 1) := hw
            refine lv_if_eq (tgt := 30) hx hb dX9_kindTold_23 (by decide) (fun c_90 => ?_) (fun c_90 => ?_)
            · skip
              have tc_90 : r_89.toInt = 0 := (fa_eq _ _).mp c_90
              refine lv_iload_n hx hb dX9_kindTold_30 rfl (lv_at hl 1 rfl) ?_
              refine lv_istore_n (lv' := [(1, .int 4), (2, .int 5), (0, .ref h0)]) hx hb dX9_kindTold_31 rfl hl (by decide) rfl (fun ls hl => ?_)
              refine lv_iinc (v := 6) (lv' := [(2, .int 6), (1, .int 4), (0, .ref h0)]) hx hb dX9_kindTold_32 hl (k := 1) rfl (by decide) (by decide) rfl (fun ls hl => ?_)
              refine lv_goto (tgt := 4) hx hb dX9_kindTold_35 (by decide) ?_
              refine lv_iload_n hx hb dX9_kindTold_4 rfl (lv_at hl 0 rfl) ?_
              refine lv_aload_n hx hb dX9_kindTold_5 rfl (lv_at hl 2 rfl) ?_
              refine va_get (D := (dC, dI)) (ci := 7) (v := .ref i0) (C := RX9) (T := TX9) (N := 28) hx hb hts inX9 hown hK hP 0 rfl rfl 17 (by decide) (hts _ (List.mem_of_getElem? (i := 1) rfl)) (fun _ h9 => h9) rfl dX9_kindTold_6 ?_
              refine va_alen (v := 6) hx hb hK hP 2 1 rfl rfl rfl dX9_kindTold_9 ?_
              refine lv_icmp_ge (tgt := 38) hx hb dX9_kindTold_10 (by decide) (fun _ => ?_) (fun c => absurd (by decide) c)
              refine lv_iload_n hx hb dX9_kindTold_38 rfl (lv_at hl 1 rfl) ?_
              exact W.iret (v := (4 : Int32)) hx hb hr (fun t ht hW => ⟨(4 : Int32), rfl, (by first | omega | decide | (simp only [fa_lt, fa_le, fa_eq, and_true, true_and, and_false, false_and, not_true_eq_false, not_false_eq_true, li_0, li_1, li_2, li_3, li_4, li_5, li_6, li_7, li_8, li_9, li_10, li_12, li_15, li_16, li_20, li_30, li_34, li_38, li_40, li_63, li_64, li_65, li_78, li_120, li_1000, li_4000, li_10000, li_11077, li_255, li_65535, li_m1, li_m2, li_m1000000001, li_m1000000002, li_m1000000003, li_m1000000004, li_m1000000005, li_m1000000006, li_m1000000007, or_true, true_or, or_false, false_or, implies_true, true_implies, false_implies] <;> omega)), ht⟩) (fun _ h => absurd h List.not_mem_nil) dX9_kindTold_39
            · skip
              have tc_90 : ¬ r_89.toInt = 0 := fun h => c_90 ((fa_eq _ _).mpr h)
              refine lv_iload_n hx hb dX9_kindTold_26 rfl (lv_at hl 0 rfl) ?_
              refine lv_goto (tgt := 31) hx hb dX9_kindTold_27 (by decide) ?_
              refine lv_istore_n (lv' := [(1, .int 5), (2, .int 5), (0, .ref h0)]) hx hb dX9_kindTold_31 rfl hl (by decide) rfl (fun ls hl => ?_)
              refine lv_iinc (v := 6) (lv' := [(2, .int 6), (1, .int 5), (0, .ref h0)]) hx hb dX9_kindTold_32 hl (k := 1) rfl (by decide) (by decide) rfl (fun ls hl => ?_)
              refine lv_goto (tgt := 4) hx hb dX9_kindTold_35 (by decide) ?_
              refine lv_iload_n hx hb dX9_kindTold_4 rfl (lv_at hl 0 rfl) ?_
              refine lv_aload_n hx hb dX9_kindTold_5 rfl (lv_at hl 2 rfl) ?_
              refine va_get (D := (dC, dI)) (ci := 7) (v := .ref i0) (C := RX9) (T := TX9) (N := 28) hx hb hts inX9 hown hK hP 0 rfl rfl 17 (by decide) (hts _ (List.mem_of_getElem? (i := 1) rfl)) (fun _ h9 => h9) rfl dX9_kindTold_6 ?_
              refine va_alen (v := 6) hx hb hK hP 2 1 rfl rfl rfl dX9_kindTold_9 ?_
              refine lv_icmp_ge (tgt := 38) hx hb dX9_kindTold_10 (by decide) (fun _ => ?_) (fun c => absurd (by decide) c)
              refine lv_iload_n hx hb dX9_kindTold_38 rfl (lv_at hl 1 rfl) ?_
              exact W.iret (v := (5 : Int32)) hx hb hr (fun t ht hW => ⟨(5 : Int32), rfl, (by first | omega | decide | (simp only [fa_lt, fa_le, fa_eq, and_true, true_and, and_false, false_and, not_true_eq_false, not_false_eq_true, li_0, li_1, li_2, li_3, li_4, li_5, li_6, li_7, li_8, li_9, li_10, li_12, li_15, li_16, li_20, li_30, li_34, li_38, li_40, li_63, li_64, li_65, li_78, li_120, li_1000, li_4000, li_10000, li_11077, li_255, li_65535, li_m1, li_m2, li_m1000000001, li_m1000000002, li_m1000000003, li_m1000000004, li_m1000000005, li_m1000000006, li_m1000000007, or_true, true_or, or_false, false_or, implies_true, true_implies, false_implies] <;> omega)), ht⟩) (fun _ h => absurd h List.not_mem_nil) dX9_kindTold_39
        · skip
          have tc_84 : ¬ r_83.toInt = 0 := fun h => c_84 ((fa_eq _ _).mpr h)
          refine lv_iload_n hx hb dX9_kindTold_26 rfl (lv_at hl 0 rfl) ?_
          refine lv_goto (tgt := 31) hx hb dX9_kindTold_27 (by decide) ?_
          refine lv_istore_n (lv' := [(1, .int 3), (2, .int 3), (0, .ref h0)]) hx hb dX9_kindTold_31 rfl hl (by decide) rfl (fun ls hl => ?_)
          refine lv_iinc (v := 4) (lv' := [(2, .int 4), (1, .int 3), (0, .ref h0)]) hx hb dX9_kindTold_32 hl (k := 1) rfl (by decide) (by decide) rfl (fun ls hl => ?_)
          refine lv_goto (tgt := 4) hx hb dX9_kindTold_35 (by decide) ?_
          refine lv_iload_n hx hb dX9_kindTold_4 rfl (lv_at hl 0 rfl) ?_
          refine lv_aload_n hx hb dX9_kindTold_5 rfl (lv_at hl 2 rfl) ?_
          refine va_get (D := (dC, dI)) (ci := 7) (v := .ref i0) (C := RX9) (T := TX9) (N := 28) hx hb hts inX9 hown hK hP 0 rfl rfl 17 (by decide) (hts _ (List.mem_of_getElem? (i := 1) rfl)) (fun _ h9 => h9) rfl dX9_kindTold_6 ?_
          refine va_alen (v := 6) hx hb hK hP 2 1 rfl rfl rfl dX9_kindTold_9 ?_
          refine lv_icmp_ge (tgt := 38) hx hb dX9_kindTold_10 (by decide) (fun c => absurd c (by decide)) (fun _ => ?_)
          refine lv_aload_n hx hb dX9_kindTold_13 rfl (lv_at hl 2 rfl) ?_
          refine lv_aload_n hx hb dX9_kindTold_14 rfl (lv_at hl 2 rfl) ?_
          refine va_get (D := (dC, dI)) (ci := 7) (v := .ref i0) (C := RX9) (T := TX9) (N := 28) hx hb hts inX9 hown hK hP 0 rfl rfl 17 (by decide) (hts _ (List.mem_of_getElem? (i := 1) rfl)) (fun _ h9 => h9) rfl dX9_kindTold_15 ?_
          refine lv_iload_n hx hb dX9_kindTold_18 rfl (lv_at hl 0 rfl) ?_
          refine va_aldq hx hb hK hP 2 1 rfl rfl (vp_in_nI (n := 4) (by decide) (by decide)) dX9_kindTold_19 ?_
          refine pp_tv (y := .ref (ad 17)) (congrArg va_rf (hjf 4 (by decide))) ?_
          have hPc := hP.sub (ws' := [(h0, .inr (7, [v0, v1, v2, v3, v4, v5, v6, v7, v8, v9, .ref e0, .int ts, .int bg, .int en, .int so, .int va, v16, .ref i0, v18, v19, v20, v21, v22, v23, v24, v25, v26, v27])), (e0, .inl (ec, 120, .inl ef))]) [0, 1] rfl
          have hKc := hK.sub (tys' := [(ec, .int)]) [0] rfl
          refine vp_callSi (W.runV (As := [.ref (ad 17)]) (rest := []) ⟨hx, hb, hml, hown, hts⟩ (m_isWord l dC dI ad h0 17 v0 v1 v2 v3 v4 v5 v6 v7 v8 v9 e0 ts bg en so va v16 (.ref i0) v18 v19 v20 v21 v22 v23 v24 v25 v26 v27 ec ef (by decide) htm hlx) (cwV 1 hts g_m_kindTold_m_isWord_231 rfl rfl rfl (by decide +kernel) ⟨(Nat.le_of_ble_eq_true rfl), (Nat.le_of_ble_eq_true rfl)⟩) ⟨preST_blind, va_recv hKc hPc (ci := 7) (q0 := 0) rfl rfl, fun U hU hW => ⟨rfl, preS_at hU hW hPc hKc hev, sf_at hsf hS (fun _ h => h.elim) hU hW⟩⟩ rfl rfl hl.1 rfl (lv_room (Nat.le_of_ble_eq_true rfl)) dX9_kindTold_20 ⟨(Nat.le_of_ble_eq_true rfl), (Nat.le_of_ble_eq_true rfl)⟩) (fun r_91 hw => ?_)
          have hr_91 : r_91.toInt = 0 ∨ (r_91.toInt = 1 ∧ so.toInt = 1) := hw
          refine lv_if_eq (tgt := 30) hx hb dX9_kindTold_23 (by decide) (fun c_92 => ?_) (fun c_92 => ?_)
          · skip
            have tc_92 : r_91.toInt = 0 := (fa_eq _ _).mp c_92
            refine lv_iload_n hx hb dX9_kindTold_30 rfl (lv_at hl 1 rfl) ?_
            refine lv_istore_n (lv' := [(1, .int 3), (2, .int 4), (0, .ref h0)]) hx hb dX9_kindTold_31 rfl hl (by decide) rfl (fun ls hl => ?_)
            refine lv_iinc (v := 5) (lv' := [(2, .int 5), (1, .int 3), (0, .ref h0)]) hx hb dX9_kindTold_32 hl (k := 1) rfl (by decide) (by decide) rfl (fun ls hl => ?_)
            refine lv_goto (tgt := 4) hx hb dX9_kindTold_35 (by decide) ?_
            refine lv_iload_n hx hb dX9_kindTold_4 rfl (lv_at hl 0 rfl) ?_
            refine lv_aload_n hx hb dX9_kindTold_5 rfl (lv_at hl 2 rfl) ?_
            refine va_get (D := (dC, dI)) (ci := 7) (v := .ref i0) (C := RX9) (T := TX9) (N := 28) hx hb hts inX9 hown hK hP 0 rfl rfl 17 (by decide) (hts _ (List.mem_of_getElem? (i := 1) rfl)) (fun _ h9 => h9) rfl dX9_kindTold_6 ?_
            refine va_alen (v := 6) hx hb hK hP 2 1 rfl rfl rfl dX9_kindTold_9 ?_
            refine lv_icmp_ge (tgt := 38) hx hb dX9_kindTold_10 (by decide) (fun c => absurd c (by decide)) (fun _ => ?_)
            refine lv_aload_n hx hb dX9_kindTold_13 rfl (lv_at hl 2 rfl) ?_
            refine lv_aload_n hx hb dX9_kindTold_14 rfl (lv_at hl 2 rfl) ?_
            refine va_get (D := (dC, dI)) (ci := 7) (v := .ref i0) (C := RX9) (T := TX9) (N := 28) hx hb hts inX9 hown hK hP 0 rfl rfl 17 (by decide) (hts _ (List.mem_of_getElem? (i := 1) rfl)) (fun _ h9 => h9) rfl dX9_kindTold_15 ?_
            refine lv_iload_n hx hb dX9_kindTold_18 rfl (lv_at hl 0 rfl) ?_
            refine va_aldq hx hb hK hP 2 1 rfl rfl (vp_in_nI (n := 5) (by decide) (by decide)) dX9_kindTold_19 ?_
            refine pp_tv (y := .ref (ad 18)) (congrArg va_rf (hjf 5 (by decide))) ?_
            have hPc := hP.sub (ws' := [(h0, .inr (7, [v0, v1, v2, v3, v4, v5, v6, v7, v8, v9, .ref e0, .int ts, .int bg, .int en, .int so, .int va, v16, .ref i0, v18, v19, v20, v21, v22, v23, v24, v25, v26, v27])), (e0, .inl (ec, 120, .inl ef))]) [0, 1] rfl
            have hKc := hK.sub (tys' := [(ec, .int)]) [0] rfl
            refine vp_callSi (W.runV (As := [.ref (ad 18)]) (rest := []) ⟨hx, hb, hml, hown, hts⟩ (m_isWord l dC dI ad h0 18 v0 v1 v2 v3 v4 v5 v6 v7 v8 v9 e0 ts bg en so va v16 (.ref i0) v18 v19 v20 v21 v22 v23 v24 v25 v26 v27 ec ef (by decide) htm hlx) (cwV 1 hts g_m_kindTold_m_isWord_231 rfl rfl rfl (by decide +kernel) ⟨(Nat.le_of_ble_eq_true rfl), (Nat.le_of_ble_eq_true rfl)⟩) ⟨preST_blind, va_recv hKc hPc (ci := 7) (q0 := 0) rfl rfl, fun U hU hW => ⟨rfl, preS_at hU hW hPc hKc hev, sf_at hsf hS (fun _ h => h.elim) hU hW⟩⟩ rfl rfl hl.1 rfl (lv_room (Nat.le_of_ble_eq_true rfl)) dX9_kindTold_20 ⟨(Nat.le_of_ble_eq_true rfl), (Nat.le_of_ble_eq_true rfl)⟩) (fun r_93 hw => ?_)
            have hr_93 : r_93.toInt = 0 ∨ (r_93.toInt = 1 ∧ so.toInt = 1) := hw
            refine lv_if_eq (tgt := 30) hx hb dX9_kindTold_23 (by decide) (fun c_94 => ?_) (fun c_94 => ?_)
            · skip
              have tc_94 : r_93.toInt = 0 := (fa_eq _ _).mp c_94
              refine lv_iload_n hx hb dX9_kindTold_30 rfl (lv_at hl 1 rfl) ?_
              refine lv_istore_n (lv' := [(1, .int 3), (2, .int 5), (0, .ref h0)]) hx hb dX9_kindTold_31 rfl hl (by decide) rfl (fun ls hl => ?_)
              refine lv_iinc (v := 6) (lv' := [(2, .int 6), (1, .int 3), (0, .ref h0)]) hx hb dX9_kindTold_32 hl (k := 1) rfl (by decide) (by decide) rfl (fun ls hl => ?_)
              refine lv_goto (tgt := 4) hx hb dX9_kindTold_35 (by decide) ?_
              refine lv_iload_n hx hb dX9_kindTold_4 rfl (lv_at hl 0 rfl) ?_
              refine lv_aload_n hx hb dX9_kindTold_5 rfl (lv_at hl 2 rfl) ?_
              refine va_get (D := (dC, dI)) (ci := 7) (v := .ref i0) (C := RX9) (T := TX9) (N := 28) hx hb hts inX9 hown hK hP 0 rfl rfl 17 (by decide) (hts _ (List.mem_of_getElem? (i := 1) rfl)) (fun _ h9 => h9) rfl dX9_kindTold_6 ?_
              refine va_alen (v := 6) hx hb hK hP 2 1 rfl rfl rfl dX9_kindTold_9 ?_
              refine lv_icmp_ge (tgt := 38) hx hb dX9_kindTold_10 (by decide) (fun _ => ?_) (fun c => absurd (by decide) c)
              refine lv_iload_n hx hb dX9_kindTold_38 rfl (lv_at hl 1 rfl) ?_
              exact W.iret (v := (3 : Int32)) hx hb hr (fun t ht hW => ⟨(3 : Int32), rfl, (by first | omega | decide | (simp only [fa_lt, fa_le, fa_eq, and_true, true_and, and_false, false_and, not_true_eq_false, not_false_eq_true, li_0, li_1, li_2, li_3, li_4, li_5, li_6, li_7, li_8, li_9, li_10, li_12, li_15, li_16, li_20, li_30, li_34, li_38, li_40, li_63, li_64, li_65, li_78, li_120, li_1000, li_4000, li_10000, li_11077, li_255, li_65535, li_m1, li_m2, li_m1000000001, li_m1000000002, li_m1000000003, li_m1000000004, li_m1000000005, li_m1000000006, li_m1000000007, or_true, true_or, or_false, false_or, implies_true, true_implies, false_implies] <;> omega)), ht⟩) (fun _ h => absurd h List.not_mem_nil) dX9_kindTold_39
            · skip
              have tc_94 : ¬ r_93.toInt = 0 := fun h => c_94 ((fa_eq _ _).mpr h)
              refine lv_iload_n hx hb dX9_kindTold_26 rfl (lv_at hl 0 rfl) ?_
              refine lv_goto (tgt := 31) hx hb dX9_kindTold_27 (by decide) ?_
              refine lv_istore_n (lv' := [(1, .int 5), (2, .int 5), (0, .ref h0)]) hx hb dX9_kindTold_31 rfl hl (by decide) rfl (fun ls hl => ?_)
              refine lv_iinc (v := 6) (lv' := [(2, .int 6), (1, .int 5), (0, .ref h0)]) hx hb dX9_kindTold_32 hl (k := 1) rfl (by decide) (by decide) rfl (fun ls hl => ?_)
              refine lv_goto (tgt := 4) hx hb dX9_kindTold_35 (by decide) ?_
              refine lv_iload_n hx hb dX9_kindTold_4 rfl (lv_at hl 0 rfl) ?_
              refine lv_aload_n hx hb dX9_kindTold_5 rfl (lv_at hl 2 rfl) ?_
              refine va_get (D := (dC, dI)) (ci := 7) (v := .ref i0) (C := RX9) (T := TX9) (N := 28) hx hb hts inX9 hown hK hP 0 rfl rfl 17 (by decide) (hts _ (List.mem_of_getElem? (i := 1) rfl)) (fun _ h9 => h9) rfl dX9_kindTold_6 ?_
              refine va_alen (v := 6) hx hb hK hP 2 1 rfl rfl rfl dX9_kindTold_9 ?_
              refine lv_icmp_ge (tgt := 38) hx hb dX9_kindTold_10 (by decide) (fun _ => ?_) (fun c => absurd (by decide) c)
              refine lv_iload_n hx hb dX9_kindTold_38 rfl (lv_at hl 1 rfl) ?_
              exact W.iret (v := (5 : Int32)) hx hb hr (fun t ht hW => ⟨(5 : Int32), rfl, (by first | omega | decide | (simp only [fa_lt, fa_le, fa_eq, and_true, true_and, and_false, false_and, not_true_eq_false, not_false_eq_true, li_0, li_1, li_2, li_3, li_4, li_5, li_6, li_7, li_8, li_9, li_10, li_12, li_15, li_16, li_20, li_30, li_34, li_38, li_40, li_63, li_64, li_65, li_78, li_120, li_1000, li_4000, li_10000, li_11077, li_255, li_65535, li_m1, li_m2, li_m1000000001, li_m1000000002, li_m1000000003, li_m1000000004, li_m1000000005, li_m1000000006, li_m1000000007, or_true, true_or, or_false, false_or, implies_true, true_implies, false_implies] <;> omega)), ht⟩) (fun _ h => absurd h List.not_mem_nil) dX9_kindTold_39
          · skip
            have tc_92 : ¬ r_91.toInt = 0 := fun h => c_92 ((fa_eq _ _).mpr h)
            refine lv_iload_n hx hb dX9_kindTold_26 rfl (lv_at hl 0 rfl) ?_
            refine lv_goto (tgt := 31) hx hb dX9_kindTold_27 (by decide) ?_
            refine lv_istore_n (lv' := [(1, .int 4), (2, .int 4), (0, .ref h0)]) hx hb dX9_kindTold_31 rfl hl (by decide) rfl (fun ls hl => ?_)
            refine lv_iinc (v := 5) (lv' := [(2, .int 5), (1, .int 4), (0, .ref h0)]) hx hb dX9_kindTold_32 hl (k := 1) rfl (by decide) (by decide) rfl (fun ls hl => ?_)
            refine lv_goto (tgt := 4) hx hb dX9_kindTold_35 (by decide) ?_
            refine lv_iload_n hx hb dX9_kindTold_4 rfl (lv_at hl 0 rfl) ?_
            refine lv_aload_n hx hb dX9_kindTold_5 rfl (lv_at hl 2 rfl) ?_
            refine va_get (D := (dC, dI)) (ci := 7) (v := .ref i0) (C := RX9) (T := TX9) (N := 28) hx hb hts inX9 hown hK hP 0 rfl rfl 17 (by decide) (hts _ (List.mem_of_getElem? (i := 1) rfl)) (fun _ h9 => h9) rfl dX9_kindTold_6 ?_
            refine va_alen (v := 6) hx hb hK hP 2 1 rfl rfl rfl dX9_kindTold_9 ?_
            refine lv_icmp_ge (tgt := 38) hx hb dX9_kindTold_10 (by decide) (fun c => absurd c (by decide)) (fun _ => ?_)
            refine lv_aload_n hx hb dX9_kindTold_13 rfl (lv_at hl 2 rfl) ?_
            refine lv_aload_n hx hb dX9_kindTold_14 rfl (lv_at hl 2 rfl) ?_
            refine va_get (D := (dC, dI)) (ci := 7) (v := .ref i0) (C := RX9) (T := TX9) (N := 28) hx hb hts inX9 hown hK hP 0 rfl rfl 17 (by decide) (hts _ (List.mem_of_getElem? (i := 1) rfl)) (fun _ h9 => h9) rfl dX9_kindTold_15 ?_
            refine lv_iload_n hx hb dX9_kindTold_18 rfl (lv_at hl 0 rfl) ?_
            refine va_aldq hx hb hK hP 2 1 rfl rfl (vp_in_nI (n := 5) (by decide) (by decide)) dX9_kindTold_19 ?_
            refine pp_tv (y := .ref (ad 18)) (congrArg va_rf (hjf 5 (by decide))) ?_
            have hPc := hP.sub (ws' := [(h0, .inr (7, [v0, v1, v2, v3, v4, v5, v6, v7, v8, v9, .ref e0, .int ts, .int bg, .int en, .int so, .int va, v16, .ref i0, v18, v19, v20, v21, v22, v23, v24, v25, v26, v27])), (e0, .inl (ec, 120, .inl ef))]) [0, 1] rfl
            have hKc := hK.sub (tys' := [(ec, .int)]) [0] rfl
            refine vp_callSi (W.runV (As := [.ref (ad 18)]) (rest := []) ⟨hx, hb, hml, hown, hts⟩ (m_isWord l dC dI ad h0 18 v0 v1 v2 v3 v4 v5 v6 v7 v8 v9 e0 ts bg en so va v16 (.ref i0) v18 v19 v20 v21 v22 v23 v24 v25 v26 v27 ec ef (by decide) htm hlx) (cwV 1 hts g_m_kindTold_m_isWord_231 rfl rfl rfl (by decide +kernel) ⟨(Nat.le_of_ble_eq_true rfl), (Nat.le_of_ble_eq_true rfl)⟩) ⟨preST_blind, va_recv hKc hPc (ci := 7) (q0 := 0) rfl rfl, fun U hU hW => ⟨rfl, preS_at hU hW hPc hKc hev, sf_at hsf hS (fun _ h => h.elim) hU hW⟩⟩ rfl rfl hl.1 rfl (lv_room (Nat.le_of_ble_eq_true rfl)) dX9_kindTold_20 ⟨(Nat.le_of_ble_eq_true rfl), (Nat.le_of_ble_eq_true rfl)⟩) (fun r_95 hw => ?_)
            have hr_95 : r_95.toInt = 0 ∨ (r_95.toInt = 1 ∧ so.toInt = 1) := hw
            refine lv_if_eq (tgt := 30) hx hb dX9_kindTold_23 (by decide) (fun c_96 => ?_) (fun c_96 => ?_)
            · skip
              have tc_96 : r_95.toInt = 0 := (fa_eq _ _).mp c_96
              refine lv_iload_n hx hb dX9_kindTold_30 rfl (lv_at hl 1 rfl) ?_
              refine lv_istore_n (lv' := [(1, .int 4), (2, .int 5), (0, .ref h0)]) hx hb dX9_kindTold_31 rfl hl (by decide) rfl (fun ls hl => ?_)
              refine lv_iinc (v := 6) (lv' := [(2, .int 6), (1, .int 4), (0, .ref h0)]) hx hb dX9_kindTold_32 hl (k := 1) rfl (by decide) (by decide) rfl (fun ls hl => ?_)
              refine lv_goto (tgt := 4) hx hb dX9_kindTold_35 (by decide) ?_
              refine lv_iload_n hx hb dX9_kindTold_4 rfl (lv_at hl 0 rfl) ?_
              refine lv_aload_n hx hb dX9_kindTold_5 rfl (lv_at hl 2 rfl) ?_
              refine va_get (D := (dC, dI)) (ci := 7) (v := .ref i0) (C := RX9) (T := TX9) (N := 28) hx hb hts inX9 hown hK hP 0 rfl rfl 17 (by decide) (hts _ (List.mem_of_getElem? (i := 1) rfl)) (fun _ h9 => h9) rfl dX9_kindTold_6 ?_
              refine va_alen (v := 6) hx hb hK hP 2 1 rfl rfl rfl dX9_kindTold_9 ?_
              refine lv_icmp_ge (tgt := 38) hx hb dX9_kindTold_10 (by decide) (fun _ => ?_) (fun c => absurd (by decide) c)
              refine lv_iload_n hx hb dX9_kindTold_38 rfl (lv_at hl 1 rfl) ?_
              exact W.iret (v := (4 : Int32)) hx hb hr (fun t ht hW => ⟨(4 : Int32), rfl, (by first | omega | decide | (simp only [fa_lt, fa_le, fa_eq, and_true, true_and, and_false, false_and, not_true_eq_false, not_false_eq_true, li_0, li_1, li_2, li_3, li_4, li_5, li_6, li_7, li_8, li_9, li_10, li_12, li_15, li_16, li_20, li_30, li_34, li_38, li_40, li_63, li_64, li_65, li_78, li_120, li_1000, li_4000, li_10000, li_11077, li_255, li_65535, li_m1, li_m2, li_m1000000001, li_m1000000002, li_m1000000003, li_m1000000004, li_m1000000005, li_m1000000006, li_m1000000007, or_true, true_or, or_false, false_or, implies_true, true_implies, false_implies] <;> omega)), ht⟩) (fun _ h => absurd h List.not_mem_nil) dX9_kindTold_39
            · skip
              have tc_96 : ¬ r_95.toInt = 0 := fun h => c_96 ((fa_eq _ _).mpr h)
              refine lv_iload_n hx hb dX9_kindTold_26 rfl (lv_at hl 0 rfl) ?_
              refine lv_goto (tgt := 31) hx hb dX9_kindTold_27 (by decide) ?_
              refine lv_istore_n (lv' := [(1, .int 5), (2, .int 5), (0, .ref h0)]) hx hb dX9_kindTold_31 rfl hl (by decide) rfl (fun ls hl => ?_)
              refine lv_iinc (v := 6) (lv' := [(2, .int 6), (1, .int 5), (0, .ref h0)]) hx hb dX9_kindTold_32 hl (k := 1) rfl (by decide) (by decide) rfl (fun ls hl => ?_)
              refine lv_goto (tgt := 4) hx hb dX9_kindTold_35 (by decide) ?_
              refine lv_iload_n hx hb dX9_kindTold_4 rfl (lv_at hl 0 rfl) ?_
              refine lv_aload_n hx hb dX9_kindTold_5 rfl (lv_at hl 2 rfl) ?_
              refine va_get (D := (dC, dI)) (ci := 7) (v := .ref i0) (C := RX9) (T := TX9) (N := 28) hx hb hts inX9 hown hK hP 0 rfl rfl 17 (by decide) (hts _ (List.mem_of_getElem? (i := 1) rfl)) (fun _ h9 => h9) rfl dX9_kindTold_6 ?_
              refine va_alen (v := 6) hx hb hK hP 2 1 rfl rfl rfl dX9_kindTold_9 ?_
              refine lv_icmp_ge (tgt := 38) hx hb dX9_kindTold_10 (by decide) (fun _ => ?_) (fun c => absurd (by decide) c)
              refine lv_iload_n hx hb dX9_kindTold_38 rfl (lv_at hl 1 rfl) ?_
              exact W.iret (v := (5 : Int32)) hx hb hr (fun t ht hW => ⟨(5 : Int32), rfl, (by first | omega | decide | (simp only [fa_lt, fa_le, fa_eq, and_true, true_and, and_false, false_and, not_true_eq_false, not_false_eq_true, li_0, li_1, li_2, li_3, li_4, li_5, li_6, li_7, li_8, li_9, li_10, li_12, li_15, li_16, li_20, li_30, li_34, li_38, li_40, li_63, li_64, li_65, li_78, li_120, li_1000, li_4000, li_10000, li_11077, li_255, li_65535, li_m1, li_m2, li_m1000000001, li_m1000000002, li_m1000000003, li_m1000000004, li_m1000000005, li_m1000000006, li_m1000000007, or_true, true_or, or_false, false_or, implies_true, true_implies, false_implies] <;> omega)), ht⟩) (fun _ h => absurd h List.not_mem_nil) dX9_kindTold_39
    · skip
      have tc_66 : ¬ r_65.toInt = 0 := fun h => c_66 ((fa_eq _ _).mpr h)
      refine lv_iload_n hx hb dX9_kindTold_26 rfl (lv_at hl 0 rfl) ?_
      refine lv_goto (tgt := 31) hx hb dX9_kindTold_27 (by decide) ?_
      refine lv_istore_n (lv' := [(1, .int 1), (2, .int 1), (0, .ref h0)]) hx hb dX9_kindTold_31 rfl hl (by decide) rfl (fun ls hl => ?_)
      refine lv_iinc (v := 2) (lv' := [(2, .int 2), (1, .int 1), (0, .ref h0)]) hx hb dX9_kindTold_32 hl (k := 1) rfl (by decide) (by decide) rfl (fun ls hl => ?_)
      refine lv_goto (tgt := 4) hx hb dX9_kindTold_35 (by decide) ?_
      refine lv_iload_n hx hb dX9_kindTold_4 rfl (lv_at hl 0 rfl) ?_
      refine lv_aload_n hx hb dX9_kindTold_5 rfl (lv_at hl 2 rfl) ?_
      refine va_get (D := (dC, dI)) (ci := 7) (v := .ref i0) (C := RX9) (T := TX9) (N := 28) hx hb hts inX9 hown hK hP 0 rfl rfl 17 (by decide) (hts _ (List.mem_of_getElem? (i := 1) rfl)) (fun _ h9 => h9) rfl dX9_kindTold_6 ?_
      refine va_alen (v := 6) hx hb hK hP 2 1 rfl rfl rfl dX9_kindTold_9 ?_
      refine lv_icmp_ge (tgt := 38) hx hb dX9_kindTold_10 (by decide) (fun c => absurd c (by decide)) (fun _ => ?_)
      refine lv_aload_n hx hb dX9_kindTold_13 rfl (lv_at hl 2 rfl) ?_
      refine lv_aload_n hx hb dX9_kindTold_14 rfl (lv_at hl 2 rfl) ?_
      refine va_get (D := (dC, dI)) (ci := 7) (v := .ref i0) (C := RX9) (T := TX9) (N := 28) hx hb hts inX9 hown hK hP 0 rfl rfl 17 (by decide) (hts _ (List.mem_of_getElem? (i := 1) rfl)) (fun _ h9 => h9) rfl dX9_kindTold_15 ?_
      refine lv_iload_n hx hb dX9_kindTold_18 rfl (lv_at hl 0 rfl) ?_
      refine va_aldq hx hb hK hP 2 1 rfl rfl (vp_in_nI (n := 2) (by decide) (by decide)) dX9_kindTold_19 ?_
      refine pp_tv (y := .ref (ad 15)) (congrArg va_rf (hjf 2 (by decide))) ?_
      have hPc := hP.sub (ws' := [(h0, .inr (7, [v0, v1, v2, v3, v4, v5, v6, v7, v8, v9, .ref e0, .int ts, .int bg, .int en, .int so, .int va, v16, .ref i0, v18, v19, v20, v21, v22, v23, v24, v25, v26, v27])), (e0, .inl (ec, 120, .inl ef))]) [0, 1] rfl
      have hKc := hK.sub (tys' := [(ec, .int)]) [0] rfl
      refine vp_callSi (W.runV (As := [.ref (ad 15)]) (rest := []) ⟨hx, hb, hml, hown, hts⟩ (m_isWord l dC dI ad h0 15 v0 v1 v2 v3 v4 v5 v6 v7 v8 v9 e0 ts bg en so va v16 (.ref i0) v18 v19 v20 v21 v22 v23 v24 v25 v26 v27 ec ef (by decide) htm hlx) (cwV 1 hts g_m_kindTold_m_isWord_231 rfl rfl rfl (by decide +kernel) ⟨(Nat.le_of_ble_eq_true rfl), (Nat.le_of_ble_eq_true rfl)⟩) ⟨preST_blind, va_recv hKc hPc (ci := 7) (q0 := 0) rfl rfl, fun U hU hW => ⟨rfl, preS_at hU hW hPc hKc hev, sf_at hsf hS (fun _ h => h.elim) hU hW⟩⟩ rfl rfl hl.1 rfl (lv_room (Nat.le_of_ble_eq_true rfl)) dX9_kindTold_20 ⟨(Nat.le_of_ble_eq_true rfl), (Nat.le_of_ble_eq_true rfl)⟩) (fun r_97 hw => ?_)
      have hr_97 : r_97.toInt = 0 ∨ (r_97.toInt = 1 ∧ so.toInt = 1) := hw
      refine lv_if_eq (tgt := 30) hx hb dX9_kindTold_23 (by decide) (fun c_98 => ?_) (fun c_98 => ?_)
      · skip
        have tc_98 : r_97.toInt = 0 := (fa_eq _ _).mp c_98
        refine lv_iload_n hx hb dX9_kindTold_30 rfl (lv_at hl 1 rfl) ?_
        refine lv_istore_n (lv' := [(1, .int 1), (2, .int 2), (0, .ref h0)]) hx hb dX9_kindTold_31 rfl hl (by decide) rfl (fun ls hl => ?_)
        refine lv_iinc (v := 3) (lv' := [(2, .int 3), (1, .int 1), (0, .ref h0)]) hx hb dX9_kindTold_32 hl (k := 1) rfl (by decide) (by decide) rfl (fun ls hl => ?_)
        refine lv_goto (tgt := 4) hx hb dX9_kindTold_35 (by decide) ?_
        refine lv_iload_n hx hb dX9_kindTold_4 rfl (lv_at hl 0 rfl) ?_
        refine lv_aload_n hx hb dX9_kindTold_5 rfl (lv_at hl 2 rfl) ?_
        refine va_get (D := (dC, dI)) (ci := 7) (v := .ref i0) (C := RX9) (T := TX9) (N := 28) hx hb hts inX9 hown hK hP 0 rfl rfl 17 (by decide) (hts _ (List.mem_of_getElem? (i := 1) rfl)) (fun _ h9 => h9) rfl dX9_kindTold_6 ?_
        refine va_alen (v := 6) hx hb hK hP 2 1 rfl rfl rfl dX9_kindTold_9 ?_
        refine lv_icmp_ge (tgt := 38) hx hb dX9_kindTold_10 (by decide) (fun c => absurd c (by decide)) (fun _ => ?_)
        refine lv_aload_n hx hb dX9_kindTold_13 rfl (lv_at hl 2 rfl) ?_
        refine lv_aload_n hx hb dX9_kindTold_14 rfl (lv_at hl 2 rfl) ?_
        refine va_get (D := (dC, dI)) (ci := 7) (v := .ref i0) (C := RX9) (T := TX9) (N := 28) hx hb hts inX9 hown hK hP 0 rfl rfl 17 (by decide) (hts _ (List.mem_of_getElem? (i := 1) rfl)) (fun _ h9 => h9) rfl dX9_kindTold_15 ?_
        refine lv_iload_n hx hb dX9_kindTold_18 rfl (lv_at hl 0 rfl) ?_
        refine va_aldq hx hb hK hP 2 1 rfl rfl (vp_in_nI (n := 3) (by decide) (by decide)) dX9_kindTold_19 ?_
        refine pp_tv (y := .ref (ad 16)) (congrArg va_rf (hjf 3 (by decide))) ?_
        have hPc := hP.sub (ws' := [(h0, .inr (7, [v0, v1, v2, v3, v4, v5, v6, v7, v8, v9, .ref e0, .int ts, .int bg, .int en, .int so, .int va, v16, .ref i0, v18, v19, v20, v21, v22, v23, v24, v25, v26, v27])), (e0, .inl (ec, 120, .inl ef))]) [0, 1] rfl
        have hKc := hK.sub (tys' := [(ec, .int)]) [0] rfl
        refine vp_callSi (W.runV (As := [.ref (ad 16)]) (rest := []) ⟨hx, hb, hml, hown, hts⟩ (m_isWord l dC dI ad h0 16 v0 v1 v2 v3 v4 v5 v6 v7 v8 v9 e0 ts bg en so va v16 (.ref i0) v18 v19 v20 v21 v22 v23 v24 v25 v26 v27 ec ef (by decide) htm hlx) (cwV 1 hts g_m_kindTold_m_isWord_231 rfl rfl rfl (by decide +kernel) ⟨(Nat.le_of_ble_eq_true rfl), (Nat.le_of_ble_eq_true rfl)⟩) ⟨preST_blind, va_recv hKc hPc (ci := 7) (q0 := 0) rfl rfl, fun U hU hW => ⟨rfl, preS_at hU hW hPc hKc hev, sf_at hsf hS (fun _ h => h.elim) hU hW⟩⟩ rfl rfl hl.1 rfl (lv_room (Nat.le_of_ble_eq_true rfl)) dX9_kindTold_20 ⟨(Nat.le_of_ble_eq_true rfl), (Nat.le_of_ble_eq_true rfl)⟩) (fun r_99 hw => ?_)
        have hr_99 : r_99.toInt = 0 ∨ (r_99.toInt = 1 ∧ so.toInt = 1) := hw
        refine lv_if_eq (tgt := 30) hx hb dX9_kindTold_23 (by decide) (fun c_100 => ?_) (fun c_100 => ?_)
        · skip
          have tc_100 : r_99.toInt = 0 := (fa_eq _ _).mp c_100
          refine lv_iload_n hx hb dX9_kindTold_30 rfl (lv_at hl 1 rfl) ?_
          refine lv_istore_n (lv' := [(1, .int 1), (2, .int 3), (0, .ref h0)]) hx hb dX9_kindTold_31 rfl hl (by decide) rfl (fun ls hl => ?_)
          refine lv_iinc (v := 4) (lv' := [(2, .int 4), (1, .int 1), (0, .ref h0)]) hx hb dX9_kindTold_32 hl (k := 1) rfl (by decide) (by decide) rfl (fun ls hl => ?_)
          refine lv_goto (tgt := 4) hx hb dX9_kindTold_35 (by decide) ?_
          refine lv_iload_n hx hb dX9_kindTold_4 rfl (lv_at hl 0 rfl) ?_
          refine lv_aload_n hx hb dX9_kindTold_5 rfl (lv_at hl 2 rfl) ?_
          refine va_get (D := (dC, dI)) (ci := 7) (v := .ref i0) (C := RX9) (T := TX9) (N := 28) hx hb hts inX9 hown hK hP 0 rfl rfl 17 (by decide) (hts _ (List.mem_of_getElem? (i := 1) rfl)) (fun _ h9 => h9) rfl dX9_kindTold_6 ?_
          refine va_alen (v := 6) hx hb hK hP 2 1 rfl rfl rfl dX9_kindTold_9 ?_
          refine lv_icmp_ge (tgt := 38) hx hb dX9_kindTold_10 (by decide) (fun c => absurd c (by decide)) (fun _ => ?_)
          refine lv_aload_n hx hb dX9_kindTold_13 rfl (lv_at hl 2 rfl) ?_
          refine lv_aload_n hx hb dX9_kindTold_14 rfl (lv_at hl 2 rfl) ?_
          refine va_get (D := (dC, dI)) (ci := 7) (v := .ref i0) (C := RX9) (T := TX9) (N := 28) hx hb hts inX9 hown hK hP 0 rfl rfl 17 (by decide) (hts _ (List.mem_of_getElem? (i := 1) rfl)) (fun _ h9 => h9) rfl dX9_kindTold_15 ?_
          refine lv_iload_n hx hb dX9_kindTold_18 rfl (lv_at hl 0 rfl) ?_
          refine va_aldq hx hb hK hP 2 1 rfl rfl (vp_in_nI (n := 4) (by decide) (by decide)) dX9_kindTold_19 ?_
          refine pp_tv (y := .ref (ad 17)) (congrArg va_rf (hjf 4 (by decide))) ?_
          have hPc := hP.sub (ws' := [(h0, .inr (7, [v0, v1, v2, v3, v4, v5, v6, v7, v8, v9, .ref e0, .int ts, .int bg, .int en, .int so, .int va, v16, .ref i0, v18, v19, v20, v21, v22, v23, v24, v25, v26, v27])), (e0, .inl (ec, 120, .inl ef))]) [0, 1] rfl
          have hKc := hK.sub (tys' := [(ec, .int)]) [0] rfl
          refine vp_callSi (W.runV (As := [.ref (ad 17)]) (rest := []) ⟨hx, hb, hml, hown, hts⟩ (m_isWord l dC dI ad h0 17 v0 v1 v2 v3 v4 v5 v6 v7 v8 v9 e0 ts bg en so va v16 (.ref i0) v18 v19 v20 v21 v22 v23 v24 v25 v26 v27 ec ef (by decide) htm hlx) (cwV 1 hts g_m_kindTold_m_isWord_231 rfl rfl rfl (by decide +kernel) ⟨(Nat.le_of_ble_eq_true rfl), (Nat.le_of_ble_eq_true rfl)⟩) ⟨preST_blind, va_recv hKc hPc (ci := 7) (q0 := 0) rfl rfl, fun U hU hW => ⟨rfl, preS_at hU hW hPc hKc hev, sf_at hsf hS (fun _ h => h.elim) hU hW⟩⟩ rfl rfl hl.1 rfl (lv_room (Nat.le_of_ble_eq_true rfl)) dX9_kindTold_20 ⟨(Nat.le_of_ble_eq_true rfl), (Nat.le_of_ble_eq_true rfl)⟩) (fun r_101 hw => ?_)
          have hr_101 : r_101.toInt = 0 ∨ (r_101.toInt = 1 ∧ so.toInt = 1) := hw
          refine lv_if_eq (tgt := 30) hx hb dX9_kindTold_23 (by decide) (fun c_102 => ?_) (fun c_102 => ?_)
          · skip
            have tc_102 : r_101.toInt = 0 := (fa_eq _ _).mp c_102
            refine lv_iload_n hx hb dX9_kindTold_30 rfl (lv_at hl 1 rfl) ?_
            refine lv_istore_n (lv' := [(1, .int 1), (2, .int 4), (0, .ref h0)]) hx hb dX9_kindTold_31 rfl hl (by decide) rfl (fun ls hl => ?_)
            refine lv_iinc (v := 5) (lv' := [(2, .int 5), (1, .int 1), (0, .ref h0)]) hx hb dX9_kindTold_32 hl (k := 1) rfl (by decide) (by decide) rfl (fun ls hl => ?_)
            refine lv_goto (tgt := 4) hx hb dX9_kindTold_35 (by decide) ?_
            refine lv_iload_n hx hb dX9_kindTold_4 rfl (lv_at hl 0 rfl) ?_
            refine lv_aload_n hx hb dX9_kindTold_5 rfl (lv_at hl 2 rfl) ?_
            refine va_get (D := (dC, dI)) (ci := 7) (v := .ref i0) (C := RX9) (T := TX9) (N := 28) hx hb hts inX9 hown hK hP 0 rfl rfl 17 (by decide) (hts _ (List.mem_of_getElem? (i := 1) rfl)) (fun _ h9 => h9) rfl dX9_kindTold_6 ?_
            refine va_alen (v := 6) hx hb hK hP 2 1 rfl rfl rfl dX9_kindTold_9 ?_
            refine lv_icmp_ge (tgt := 38) hx hb dX9_kindTold_10 (by decide) (fun c => absurd c (by decide)) (fun _ => ?_)
            refine lv_aload_n hx hb dX9_kindTold_13 rfl (lv_at hl 2 rfl) ?_
            refine lv_aload_n hx hb dX9_kindTold_14 rfl (lv_at hl 2 rfl) ?_
            refine va_get (D := (dC, dI)) (ci := 7) (v := .ref i0) (C := RX9) (T := TX9) (N := 28) hx hb hts inX9 hown hK hP 0 rfl rfl 17 (by decide) (hts _ (List.mem_of_getElem? (i := 1) rfl)) (fun _ h9 => h9) rfl dX9_kindTold_15 ?_
            refine lv_iload_n hx hb dX9_kindTold_18 rfl (lv_at hl 0 rfl) ?_
            refine va_aldq hx hb hK hP 2 1 rfl rfl (vp_in_nI (n := 5) (by decide) (by decide)) dX9_kindTold_19 ?_
            refine pp_tv (y := .ref (ad 18)) (congrArg va_rf (hjf 5 (by decide))) ?_
            have hPc := hP.sub (ws' := [(h0, .inr (7, [v0, v1, v2, v3, v4, v5, v6, v7, v8, v9, .ref e0, .int ts, .int bg, .int en, .int so, .int va, v16, .ref i0, v18, v19, v20, v21, v22, v23, v24, v25, v26, v27])), (e0, .inl (ec, 120, .inl ef))]) [0, 1] rfl
            have hKc := hK.sub (tys' := [(ec, .int)]) [0] rfl
            refine vp_callSi (W.runV (As := [.ref (ad 18)]) (rest := []) ⟨hx, hb, hml, hown, hts⟩ (m_isWord l dC dI ad h0 18 v0 v1 v2 v3 v4 v5 v6 v7 v8 v9 e0 ts bg en so va v16 (.ref i0) v18 v19 v20 v21 v22 v23 v24 v25 v26 v27 ec ef (by decide) htm hlx) (cwV 1 hts g_m_kindTold_m_isWord_231 rfl rfl rfl (by decide +kernel) ⟨(Nat.le_of_ble_eq_true rfl), (Nat.le_of_ble_eq_true rfl)⟩) ⟨preST_blind, va_recv hKc hPc (ci := 7) (q0 := 0) rfl rfl, fun U hU hW => ⟨rfl, preS_at hU hW hPc hKc hev, sf_at hsf hS (fun _ h => h.elim) hU hW⟩⟩ rfl rfl hl.1 rfl (lv_room (Nat.le_of_ble_eq_true rfl)) dX9_kindTold_20 ⟨(Nat.le_of_ble_eq_true rfl), (Nat.le_of_ble_eq_true rfl)⟩) (fun r_103 hw => ?_)
            have hr_103 : r_103.toInt = 0 ∨ (r_103.toInt = 1 ∧ so.toInt = 1) := hw
            refine lv_if_eq (tgt := 30) hx hb dX9_kindTold_23 (by decide) (fun c_104 => ?_) (fun c_104 => ?_)
            · skip
              have tc_104 : r_103.toInt = 0 := (fa_eq _ _).mp c_104
              refine lv_iload_n hx hb dX9_kindTold_30 rfl (lv_at hl 1 rfl) ?_
              refine lv_istore_n (lv' := [(1, .int 1), (2, .int 5), (0, .ref h0)]) hx hb dX9_kindTold_31 rfl hl (by decide) rfl (fun ls hl => ?_)
              refine lv_iinc (v := 6) (lv' := [(2, .int 6), (1, .int 1), (0, .ref h0)]) hx hb dX9_kindTold_32 hl (k := 1) rfl (by decide) (by decide) rfl (fun ls hl => ?_)
              refine lv_goto (tgt := 4) hx hb dX9_kindTold_35 (by decide) ?_
              refine lv_iload_n hx hb dX9_kindTold_4 rfl (lv_at hl 0 rfl) ?_
              refine lv_aload_n hx hb dX9_kindTold_5 rfl (lv_at hl 2 rfl) ?_
              refine va_get (D := (dC, dI)) (ci := 7) (v := .ref i0) (C := RX9) (T := TX9) (N := 28) hx hb hts inX9 hown hK hP 0 rfl rfl 17 (by decide) (hts _ (List.mem_of_getElem? (i := 1) rfl)) (fun _ h9 => h9) rfl dX9_kindTold_6 ?_
              refine va_alen (v := 6) hx hb hK hP 2 1 rfl rfl rfl dX9_kindTold_9 ?_
              refine lv_icmp_ge (tgt := 38) hx hb dX9_kindTold_10 (by decide) (fun _ => ?_) (fun c => absurd (by decide) c)
              refine lv_iload_n hx hb dX9_kindTold_38 rfl (lv_at hl 1 rfl) ?_
              exact W.iret (v := (1 : Int32)) hx hb hr (fun t ht hW => ⟨(1 : Int32), rfl, (by first | omega | decide | (simp only [fa_lt, fa_le, fa_eq, and_true, true_and, and_false, false_and, not_true_eq_false, not_false_eq_true, li_0, li_1, li_2, li_3, li_4, li_5, li_6, li_7, li_8, li_9, li_10, li_12, li_15, li_16, li_20, li_30, li_34, li_38, li_40, li_63, li_64, li_65, li_78, li_120, li_1000, li_4000, li_10000, li_11077, li_255, li_65535, li_m1, li_m2, li_m1000000001, li_m1000000002, li_m1000000003, li_m1000000004, li_m1000000005, li_m1000000006, li_m1000000007, or_true, true_or, or_false, false_or, implies_true, true_implies, false_implies] <;> omega)), ht⟩) (fun _ h => absurd h List.not_mem_nil) dX9_kindTold_39
            · skip
              have tc_104 : ¬ r_103.toInt = 0 := fun h => c_104 ((fa_eq _ _).mpr h)
              refine lv_iload_n hx hb dX9_kindTold_26 rfl (lv_at hl 0 rfl) ?_
              refine lv_goto (tgt := 31) hx hb dX9_kindTold_27 (by decide) ?_
              refine lv_istore_n (lv' := [(1, .int 5), (2, .int 5), (0, .ref h0)]) hx hb dX9_kindTold_31 rfl hl (by decide) rfl (fun ls hl => ?_)
              refine lv_iinc (v := 6) (lv' := [(2, .int 6), (1, .int 5), (0, .ref h0)]) hx hb dX9_kindTold_32 hl (k := 1) rfl (by decide) (by decide) rfl (fun ls hl => ?_)
              refine lv_goto (tgt := 4) hx hb dX9_kindTold_35 (by decide) ?_
              refine lv_iload_n hx hb dX9_kindTold_4 rfl (lv_at hl 0 rfl) ?_
              refine lv_aload_n hx hb dX9_kindTold_5 rfl (lv_at hl 2 rfl) ?_
              refine va_get (D := (dC, dI)) (ci := 7) (v := .ref i0) (C := RX9) (T := TX9) (N := 28) hx hb hts inX9 hown hK hP 0 rfl rfl 17 (by decide) (hts _ (List.mem_of_getElem? (i := 1) rfl)) (fun _ h9 => h9) rfl dX9_kindTold_6 ?_
              refine va_alen (v := 6) hx hb hK hP 2 1 rfl rfl rfl dX9_kindTold_9 ?_
              refine lv_icmp_ge (tgt := 38) hx hb dX9_kindTold_10 (by decide) (fun _ => ?_) (fun c => absurd (by decide) c)
              refine lv_iload_n hx hb dX9_kindTold_38 rfl (lv_at hl 1 rfl) ?_
              exact W.iret (v := (5 : Int32)) hx hb hr (fun t ht hW => ⟨(5 : Int32), rfl, (by first | omega | decide | (simp only [fa_lt, fa_le, fa_eq, and_true, true_and, and_false, false_and, not_true_eq_false, not_false_eq_true, li_0, li_1, li_2, li_3, li_4, li_5, li_6, li_7, li_8, li_9, li_10, li_12, li_15, li_16, li_20, li_30, li_34, li_38, li_40, li_63, li_64, li_65, li_78, li_120, li_1000, li_4000, li_10000, li_11077, li_255, li_65535, li_m1, li_m2, li_m1000000001, li_m1000000002, li_m1000000003, li_m1000000004, li_m1000000005, li_m1000000006, li_m1000000007, or_true, true_or, or_false, false_or, implies_true, true_implies, false_implies] <;> omega)), ht⟩) (fun _ h => absurd h List.not_mem_nil) dX9_kindTold_39
          · skip
            have tc_102 : ¬ r_101.toInt = 0 := fun h => c_102 ((fa_eq _ _).mpr h)
            refine lv_iload_n hx hb dX9_kindTold_26 rfl (lv_at hl 0 rfl) ?_
            refine lv_goto (tgt := 31) hx hb dX9_kindTold_27 (by decide) ?_
            refine lv_istore_n (lv' := [(1, .int 4), (2, .int 4), (0, .ref h0)]) hx hb dX9_kindTold_31 rfl hl (by decide) rfl (fun ls hl => ?_)
            refine lv_iinc (v := 5) (lv' := [(2, .int 5), (1, .int 4), (0, .ref h0)]) hx hb dX9_kindTold_32 hl (k := 1) rfl (by decide) (by decide) rfl (fun ls hl => ?_)
            refine lv_goto (tgt := 4) hx hb dX9_kindTold_35 (by decide) ?_
            refine lv_iload_n hx hb dX9_kindTold_4 rfl (lv_at hl 0 rfl) ?_
            refine lv_aload_n hx hb dX9_kindTold_5 rfl (lv_at hl 2 rfl) ?_
            refine va_get (D := (dC, dI)) (ci := 7) (v := .ref i0) (C := RX9) (T := TX9) (N := 28) hx hb hts inX9 hown hK hP 0 rfl rfl 17 (by decide) (hts _ (List.mem_of_getElem? (i := 1) rfl)) (fun _ h9 => h9) rfl dX9_kindTold_6 ?_
            refine va_alen (v := 6) hx hb hK hP 2 1 rfl rfl rfl dX9_kindTold_9 ?_
            refine lv_icmp_ge (tgt := 38) hx hb dX9_kindTold_10 (by decide) (fun c => absurd c (by decide)) (fun _ => ?_)
            refine lv_aload_n hx hb dX9_kindTold_13 rfl (lv_at hl 2 rfl) ?_
            refine lv_aload_n hx hb dX9_kindTold_14 rfl (lv_at hl 2 rfl) ?_
            refine va_get (D := (dC, dI)) (ci := 7) (v := .ref i0) (C := RX9) (T := TX9) (N := 28) hx hb hts inX9 hown hK hP 0 rfl rfl 17 (by decide) (hts _ (List.mem_of_getElem? (i := 1) rfl)) (fun _ h9 => h9) rfl dX9_kindTold_15 ?_
            refine lv_iload_n hx hb dX9_kindTold_18 rfl (lv_at hl 0 rfl) ?_
            refine va_aldq hx hb hK hP 2 1 rfl rfl (vp_in_nI (n := 5) (by decide) (by decide)) dX9_kindTold_19 ?_
            refine pp_tv (y := .ref (ad 18)) (congrArg va_rf (hjf 5 (by decide))) ?_
            have hPc := hP.sub (ws' := [(h0, .inr (7, [v0, v1, v2, v3, v4, v5, v6, v7, v8, v9, .ref e0, .int ts, .int bg, .int en, .int so, .int va, v16, .ref i0, v18, v19, v20, v21, v22, v23, v24, v25, v26, v27])), (e0, .inl (ec, 120, .inl ef))]) [0, 1] rfl
            have hKc := hK.sub (tys' := [(ec, .int)]) [0] rfl
            refine vp_callSi (W.runV (As := [.ref (ad 18)]) (rest := []) ⟨hx, hb, hml, hown, hts⟩ (m_isWord l dC dI ad h0 18 v0 v1 v2 v3 v4 v5 v6 v7 v8 v9 e0 ts bg en so va v16 (.ref i0) v18 v19 v20 v21 v22 v23 v24 v25 v26 v27 ec ef (by decide) htm hlx) (cwV 1 hts g_m_kindTold_m_isWord_231 rfl rfl rfl (by decide +kernel) ⟨(Nat.le_of_ble_eq_true rfl), (Nat.le_of_ble_eq_true rfl)⟩) ⟨preST_blind, va_recv hKc hPc (ci := 7) (q0 := 0) rfl rfl, fun U hU hW => ⟨rfl, preS_at hU hW hPc hKc hev, sf_at hsf hS (fun _ h => h.elim) hU hW⟩⟩ rfl rfl hl.1 rfl (lv_room (Nat.le_of_ble_eq_true rfl)) dX9_kindTold_20 ⟨(Nat.le_of_ble_eq_true rfl), (Nat.le_of_ble_eq_true rfl)⟩) (fun r_105 hw => ?_)
            have hr_105 : r_105.toInt = 0 ∨ (r_105.toInt = 1 ∧ so.toInt = 1) := hw
            refine lv_if_eq (tgt := 30) hx hb dX9_kindTold_23 (by decide) (fun c_106 => ?_) (fun c_106 => ?_)
            · skip
              have tc_106 : r_105.toInt = 0 := (fa_eq _ _).mp c_106
              refine lv_iload_n hx hb dX9_kindTold_30 rfl (lv_at hl 1 rfl) ?_
              refine lv_istore_n (lv' := [(1, .int 4), (2, .int 5), (0, .ref h0)]) hx hb dX9_kindTold_31 rfl hl (by decide) rfl (fun ls hl => ?_)
              refine lv_iinc (v := 6) (lv' := [(2, .int 6), (1, .int 4), (0, .ref h0)]) hx hb dX9_kindTold_32 hl (k := 1) rfl (by decide) (by decide) rfl (fun ls hl => ?_)
              refine lv_goto (tgt := 4) hx hb dX9_kindTold_35 (by decide) ?_
              refine lv_iload_n hx hb dX9_kindTold_4 rfl (lv_at hl 0 rfl) ?_
              refine lv_aload_n hx hb dX9_kindTold_5 rfl (lv_at hl 2 rfl) ?_
              refine va_get (D := (dC, dI)) (ci := 7) (v := .ref i0) (C := RX9) (T := TX9) (N := 28) hx hb hts inX9 hown hK hP 0 rfl rfl 17 (by decide) (hts _ (List.mem_of_getElem? (i := 1) rfl)) (fun _ h9 => h9) rfl dX9_kindTold_6 ?_
              refine va_alen (v := 6) hx hb hK hP 2 1 rfl rfl rfl dX9_kindTold_9 ?_
              refine lv_icmp_ge (tgt := 38) hx hb dX9_kindTold_10 (by decide) (fun _ => ?_) (fun c => absurd (by decide) c)
              refine lv_iload_n hx hb dX9_kindTold_38 rfl (lv_at hl 1 rfl) ?_
              exact W.iret (v := (4 : Int32)) hx hb hr (fun t ht hW => ⟨(4 : Int32), rfl, (by first | omega | decide | (simp only [fa_lt, fa_le, fa_eq, and_true, true_and, and_false, false_and, not_true_eq_false, not_false_eq_true, li_0, li_1, li_2, li_3, li_4, li_5, li_6, li_7, li_8, li_9, li_10, li_12, li_15, li_16, li_20, li_30, li_34, li_38, li_40, li_63, li_64, li_65, li_78, li_120, li_1000, li_4000, li_10000, li_11077, li_255, li_65535, li_m1, li_m2, li_m1000000001, li_m1000000002, li_m1000000003, li_m1000000004, li_m1000000005, li_m1000000006, li_m1000000007, or_true, true_or, or_false, false_or, implies_true, true_implies, false_implies] <;> omega)), ht⟩) (fun _ h => absurd h List.not_mem_nil) dX9_kindTold_39
            · skip
              have tc_106 : ¬ r_105.toInt = 0 := fun h => c_106 ((fa_eq _ _).mpr h)
              refine lv_iload_n hx hb dX9_kindTold_26 rfl (lv_at hl 0 rfl) ?_
              refine lv_goto (tgt := 31) hx hb dX9_kindTold_27 (by decide) ?_
              refine lv_istore_n (lv' := [(1, .int 5), (2, .int 5), (0, .ref h0)]) hx hb dX9_kindTold_31 rfl hl (by decide) rfl (fun ls hl => ?_)
              refine lv_iinc (v := 6) (lv' := [(2, .int 6), (1, .int 5), (0, .ref h0)]) hx hb dX9_kindTold_32 hl (k := 1) rfl (by decide) (by decide) rfl (fun ls hl => ?_)
              refine lv_goto (tgt := 4) hx hb dX9_kindTold_35 (by decide) ?_
              refine lv_iload_n hx hb dX9_kindTold_4 rfl (lv_at hl 0 rfl) ?_
              refine lv_aload_n hx hb dX9_kindTold_5 rfl (lv_at hl 2 rfl) ?_
              refine va_get (D := (dC, dI)) (ci := 7) (v := .ref i0) (C := RX9) (T := TX9) (N := 28) hx hb hts inX9 hown hK hP 0 rfl rfl 17 (by decide) (hts _ (List.mem_of_getElem? (i := 1) rfl)) (fun _ h9 => h9) rfl dX9_kindTold_6 ?_
              refine va_alen (v := 6) hx hb hK hP 2 1 rfl rfl rfl dX9_kindTold_9 ?_
              refine lv_icmp_ge (tgt := 38) hx hb dX9_kindTold_10 (by decide) (fun _ => ?_) (fun c => absurd (by decide) c)
              refine lv_iload_n hx hb dX9_kindTold_38 rfl (lv_at hl 1 rfl) ?_
              exact W.iret (v := (5 : Int32)) hx hb hr (fun t ht hW => ⟨(5 : Int32), rfl, (by first | omega | decide | (simp only [fa_lt, fa_le, fa_eq, and_true, true_and, and_false, false_and, not_true_eq_false, not_false_eq_true, li_0, li_1, li_2, li_3, li_4, li_5, li_6, li_7, li_8, li_9, li_10, li_12, li_15, li_16, li_20, li_30, li_34, li_38, li_40, li_63, li_64, li_65, li_78, li_120, li_1000, li_4000, li_10000, li_11077, li_255, li_65535, li_m1, li_m2, li_m1000000001, li_m1000000002, li_m1000000003, li_m1000000004, li_m1000000005, li_m1000000006, li_m1000000007, or_true, true_or, or_false, false_or, implies_true, true_implies, false_implies] <;> omega)), ht⟩) (fun _ h => absurd h List.not_mem_nil) dX9_kindTold_39
        · skip
          have tc_100 : ¬ r_99.toInt = 0 := fun h => c_100 ((fa_eq _ _).mpr h)
          refine lv_iload_n hx hb dX9_kindTold_26 rfl (lv_at hl 0 rfl) ?_
          refine lv_goto (tgt := 31) hx hb dX9_kindTold_27 (by decide) ?_
          refine lv_istore_n (lv' := [(1, .int 3), (2, .int 3), (0, .ref h0)]) hx hb dX9_kindTold_31 rfl hl (by decide) rfl (fun ls hl => ?_)
          refine lv_iinc (v := 4) (lv' := [(2, .int 4), (1, .int 3), (0, .ref h0)]) hx hb dX9_kindTold_32 hl (k := 1) rfl (by decide) (by decide) rfl (fun ls hl => ?_)
          refine lv_goto (tgt := 4) hx hb dX9_kindTold_35 (by decide) ?_
          refine lv_iload_n hx hb dX9_kindTold_4 rfl (lv_at hl 0 rfl) ?_
          refine lv_aload_n hx hb dX9_kindTold_5 rfl (lv_at hl 2 rfl) ?_
          refine va_get (D := (dC, dI)) (ci := 7) (v := .ref i0) (C := RX9) (T := TX9) (N := 28) hx hb hts inX9 hown hK hP 0 rfl rfl 17 (by decide) (hts _ (List.mem_of_getElem? (i := 1) rfl)) (fun _ h9 => h9) rfl dX9_kindTold_6 ?_
          refine va_alen (v := 6) hx hb hK hP 2 1 rfl rfl rfl dX9_kindTold_9 ?_
          refine lv_icmp_ge (tgt := 38) hx hb dX9_kindTold_10 (by decide) (fun c => absurd c (by decide)) (fun _ => ?_)
          refine lv_aload_n hx hb dX9_kindTold_13 rfl (lv_at hl 2 rfl) ?_
          refine lv_aload_n hx hb dX9_kindTold_14 rfl (lv_at hl 2 rfl) ?_
          refine va_get (D := (dC, dI)) (ci := 7) (v := .ref i0) (C := RX9) (T := TX9) (N := 28) hx hb hts inX9 hown hK hP 0 rfl rfl 17 (by decide) (hts _ (List.mem_of_getElem? (i := 1) rfl)) (fun _ h9 => h9) rfl dX9_kindTold_15 ?_
          refine lv_iload_n hx hb dX9_kindTold_18 rfl (lv_at hl 0 rfl) ?_
          refine va_aldq hx hb hK hP 2 1 rfl rfl (vp_in_nI (n := 4) (by decide) (by decide)) dX9_kindTold_19 ?_
          refine pp_tv (y := .ref (ad 17)) (congrArg va_rf (hjf 4 (by decide))) ?_
          have hPc := hP.sub (ws' := [(h0, .inr (7, [v0, v1, v2, v3, v4, v5, v6, v7, v8, v9, .ref e0, .int ts, .int bg, .int en, .int so, .int va, v16, .ref i0, v18, v19, v20, v21, v22, v23, v24, v25, v26, v27])), (e0, .inl (ec, 120, .inl ef))]) [0, 1] rfl
          have hKc := hK.sub (tys' := [(ec, .int)]) [0] rfl
          refine vp_callSi (W.runV (As := [.ref (ad 17)]) (rest := []) ⟨hx, hb, hml, hown, hts⟩ (m_isWord l dC dI ad h0 17 v0 v1 v2 v3 v4 v5 v6 v7 v8 v9 e0 ts bg en so va v16 (.ref i0) v18 v19 v20 v21 v22 v23 v24 v25 v26 v27 ec ef (by decide) htm hlx) (cwV 1 hts g_m_kindTold_m_isWord_231 rfl rfl rfl (by decide +kernel) ⟨(Nat.le_of_ble_eq_true rfl), (Nat.le_of_ble_eq_true rfl)⟩) ⟨preST_blind, va_recv hKc hPc (ci := 7) (q0 := 0) rfl rfl, fun U hU hW => ⟨rfl, preS_at hU hW hPc hKc hev, sf_at hsf hS (fun _ h => h.elim) hU hW⟩⟩ rfl rfl hl.1 rfl (lv_room (Nat.le_of_ble_eq_true rfl)) dX9_kindTold_20 ⟨(Nat.le_of_ble_eq_true rfl), (Nat.le_of_ble_eq_true rfl)⟩) (fun r_107 hw => ?_)
          have hr_107 : r_107.toInt = 0 ∨ (r_107.toInt = 1 ∧ so.toInt = 1) := hw
          refine lv_if_eq (tgt := 30) hx hb dX9_kindTold_23 (by decide) (fun c_108 => ?_) (fun c_108 => ?_)
          · skip
            have tc_108 : r_107.toInt = 0 := (fa_eq _ _).mp c_108
            refine lv_iload_n hx hb dX9_kindTold_30 rfl (lv_at hl 1 rfl) ?_
            refine lv_istore_n (lv' := [(1, .int 3), (2, .int 4), (0, .ref h0)]) hx hb dX9_kindTold_31 rfl hl (by decide) rfl (fun ls hl => ?_)
            refine lv_iinc (v := 5) (lv' := [(2, .int 5), (1, .int 3), (0, .ref h0)]) hx hb dX9_kindTold_32 hl (k := 1) rfl (by decide) (by decide) rfl (fun ls hl => ?_)
            refine lv_goto (tgt := 4) hx hb dX9_kindTold_35 (by decide) ?_
            refine lv_iload_n hx hb dX9_kindTold_4 rfl (lv_at hl 0 rfl) ?_
            refine lv_aload_n hx hb dX9_kindTold_5 rfl (lv_at hl 2 rfl) ?_
            refine va_get (D := (dC, dI)) (ci := 7) (v := .ref i0) (C := RX9) (T := TX9) (N := 28) hx hb hts inX9 hown hK hP 0 rfl rfl 17 (by decide) (hts _ (List.mem_of_getElem? (i := 1) rfl)) (fun _ h9 => h9) rfl dX9_kindTold_6 ?_
            refine va_alen (v := 6) hx hb hK hP 2 1 rfl rfl rfl dX9_kindTold_9 ?_
            refine lv_icmp_ge (tgt := 38) hx hb dX9_kindTold_10 (by decide) (fun c => absurd c (by decide)) (fun _ => ?_)
            refine lv_aload_n hx hb dX9_kindTold_13 rfl (lv_at hl 2 rfl) ?_
            refine lv_aload_n hx hb dX9_kindTold_14 rfl (lv_at hl 2 rfl) ?_
            refine va_get (D := (dC, dI)) (ci := 7) (v := .ref i0) (C := RX9) (T := TX9) (N := 28) hx hb hts inX9 hown hK hP 0 rfl rfl 17 (by decide) (hts _ (List.mem_of_getElem? (i := 1) rfl)) (fun _ h9 => h9) rfl dX9_kindTold_15 ?_
            refine lv_iload_n hx hb dX9_kindTold_18 rfl (lv_at hl 0 rfl) ?_
            refine va_aldq hx hb hK hP 2 1 rfl rfl (vp_in_nI (n := 5) (by decide) (by decide)) dX9_kindTold_19 ?_
            refine pp_tv (y := .ref (ad 18)) (congrArg va_rf (hjf 5 (by decide))) ?_
            have hPc := hP.sub (ws' := [(h0, .inr (7, [v0, v1, v2, v3, v4, v5, v6, v7, v8, v9, .ref e0, .int ts, .int bg, .int en, .int so, .int va, v16, .ref i0, v18, v19, v20, v21, v22, v23, v24, v25, v26, v27])), (e0, .inl (ec, 120, .inl ef))]) [0, 1] rfl
            have hKc := hK.sub (tys' := [(ec, .int)]) [0] rfl
            refine vp_callSi (W.runV (As := [.ref (ad 18)]) (rest := []) ⟨hx, hb, hml, hown, hts⟩ (m_isWord l dC dI ad h0 18 v0 v1 v2 v3 v4 v5 v6 v7 v8 v9 e0 ts bg en so va v16 (.ref i0) v18 v19 v20 v21 v22 v23 v24 v25 v26 v27 ec ef (by decide) htm hlx) (cwV 1 hts g_m_kindTold_m_isWord_231 rfl rfl rfl (by decide +kernel) ⟨(Nat.le_of_ble_eq_true rfl), (Nat.le_of_ble_eq_true rfl)⟩) ⟨preST_blind, va_recv hKc hPc (ci := 7) (q0 := 0) rfl rfl, fun U hU hW => ⟨rfl, preS_at hU hW hPc hKc hev, sf_at hsf hS (fun _ h => h.elim) hU hW⟩⟩ rfl rfl hl.1 rfl (lv_room (Nat.le_of_ble_eq_true rfl)) dX9_kindTold_20 ⟨(Nat.le_of_ble_eq_true rfl), (Nat.le_of_ble_eq_true rfl)⟩) (fun r_109 hw => ?_)
            have hr_109 : r_109.toInt = 0 ∨ (r_109.toInt = 1 ∧ so.toInt = 1) := hw
            refine lv_if_eq (tgt := 30) hx hb dX9_kindTold_23 (by decide) (fun c_110 => ?_) (fun c_110 => ?_)
            · skip
              have tc_110 : r_109.toInt = 0 := (fa_eq _ _).mp c_110
              refine lv_iload_n hx hb dX9_kindTold_30 rfl (lv_at hl 1 rfl) ?_
              refine lv_istore_n (lv' := [(1, .int 3), (2, .int 5), (0, .ref h0)]) hx hb dX9_kindTold_31 rfl hl (by decide) rfl (fun ls hl => ?_)
              refine lv_iinc (v := 6) (lv' := [(2, .int 6), (1, .int 3), (0, .ref h0)]) hx hb dX9_kindTold_32 hl (k := 1) rfl (by decide) (by decide) rfl (fun ls hl => ?_)
              refine lv_goto (tgt := 4) hx hb dX9_kindTold_35 (by decide) ?_
              refine lv_iload_n hx hb dX9_kindTold_4 rfl (lv_at hl 0 rfl) ?_
              refine lv_aload_n hx hb dX9_kindTold_5 rfl (lv_at hl 2 rfl) ?_
              refine va_get (D := (dC, dI)) (ci := 7) (v := .ref i0) (C := RX9) (T := TX9) (N := 28) hx hb hts inX9 hown hK hP 0 rfl rfl 17 (by decide) (hts _ (List.mem_of_getElem? (i := 1) rfl)) (fun _ h9 => h9) rfl dX9_kindTold_6 ?_
              refine va_alen (v := 6) hx hb hK hP 2 1 rfl rfl rfl dX9_kindTold_9 ?_
              refine lv_icmp_ge (tgt := 38) hx hb dX9_kindTold_10 (by decide) (fun _ => ?_) (fun c => absurd (by decide) c)
              refine lv_iload_n hx hb dX9_kindTold_38 rfl (lv_at hl 1 rfl) ?_
              exact W.iret (v := (3 : Int32)) hx hb hr (fun t ht hW => ⟨(3 : Int32), rfl, (by first | omega | decide | (simp only [fa_lt, fa_le, fa_eq, and_true, true_and, and_false, false_and, not_true_eq_false, not_false_eq_true, li_0, li_1, li_2, li_3, li_4, li_5, li_6, li_7, li_8, li_9, li_10, li_12, li_15, li_16, li_20, li_30, li_34, li_38, li_40, li_63, li_64, li_65, li_78, li_120, li_1000, li_4000, li_10000, li_11077, li_255, li_65535, li_m1, li_m2, li_m1000000001, li_m1000000002, li_m1000000003, li_m1000000004, li_m1000000005, li_m1000000006, li_m1000000007, or_true, true_or, or_false, false_or, implies_true, true_implies, false_implies] <;> omega)), ht⟩) (fun _ h => absurd h List.not_mem_nil) dX9_kindTold_39
            · skip
              have tc_110 : ¬ r_109.toInt = 0 := fun h => c_110 ((fa_eq _ _).mpr h)
              refine lv_iload_n hx hb dX9_kindTold_26 rfl (lv_at hl 0 rfl) ?_
              refine lv_goto (tgt := 31) hx hb dX9_kindTold_27 (by decide) ?_
              refine lv_istore_n (lv' := [(1, .int 5), (2, .int 5), (0, .ref h0)]) hx hb dX9_kindTold_31 rfl hl (by decide) rfl (fun ls hl => ?_)
              refine lv_iinc (v := 6) (lv' := [(2, .int 6), (1, .int 5), (0, .ref h0)]) hx hb dX9_kindTold_32 hl (k := 1) rfl (by decide) (by decide) rfl (fun ls hl => ?_)
              refine lv_goto (tgt := 4) hx hb dX9_kindTold_35 (by decide) ?_
              refine lv_iload_n hx hb dX9_kindTold_4 rfl (lv_at hl 0 rfl) ?_
              refine lv_aload_n hx hb dX9_kindTold_5 rfl (lv_at hl 2 rfl) ?_
              refine va_get (D := (dC, dI)) (ci := 7) (v := .ref i0) (C := RX9) (T := TX9) (N := 28) hx hb hts inX9 hown hK hP 0 rfl rfl 17 (by decide) (hts _ (List.mem_of_getElem? (i := 1) rfl)) (fun _ h9 => h9) rfl dX9_kindTold_6 ?_
              refine va_alen (v := 6) hx hb hK hP 2 1 rfl rfl rfl dX9_kindTold_9 ?_
              refine lv_icmp_ge (tgt := 38) hx hb dX9_kindTold_10 (by decide) (fun _ => ?_) (fun c => absurd (by decide) c)
              refine lv_iload_n hx hb dX9_kindTold_38 rfl (lv_at hl 1 rfl) ?_
              exact W.iret (v := (5 : Int32)) hx hb hr (fun t ht hW => ⟨(5 : Int32), rfl, (by first | omega | decide | (simp only [fa_lt, fa_le, fa_eq, and_true, true_and, and_false, false_and, not_true_eq_false, not_false_eq_true, li_0, li_1, li_2, li_3, li_4, li_5, li_6, li_7, li_8, li_9, li_10, li_12, li_15, li_16, li_20, li_30, li_34, li_38, li_40, li_63, li_64, li_65, li_78, li_120, li_1000, li_4000, li_10000, li_11077, li_255, li_65535, li_m1, li_m2, li_m1000000001, li_m1000000002, li_m1000000003, li_m1000000004, li_m1000000005, li_m1000000006, li_m1000000007, or_true, true_or, or_false, false_or, implies_true, true_implies, false_implies] <;> omega)), ht⟩) (fun _ h => absurd h List.not_mem_nil) dX9_kindTold_39
          · skip
            have tc_108 : ¬ r_107.toInt = 0 := fun h => c_108 ((fa_eq _ _).mpr h)
            refine lv_iload_n hx hb dX9_kindTold_26 rfl (lv_at hl 0 rfl) ?_
            refine lv_goto (tgt := 31) hx hb dX9_kindTold_27 (by decide) ?_
            refine lv_istore_n (lv' := [(1, .int 4), (2, .int 4), (0, .ref h0)]) hx hb dX9_kindTold_31 rfl hl (by decide) rfl (fun ls hl => ?_)
            refine lv_iinc (v := 5) (lv' := [(2, .int 5), (1, .int 4), (0, .ref h0)]) hx hb dX9_kindTold_32 hl (k := 1) rfl (by decide) (by decide) rfl (fun ls hl => ?_)
            refine lv_goto (tgt := 4) hx hb dX9_kindTold_35 (by decide) ?_
            refine lv_iload_n hx hb dX9_kindTold_4 rfl (lv_at hl 0 rfl) ?_
            refine lv_aload_n hx hb dX9_kindTold_5 rfl (lv_at hl 2 rfl) ?_
            refine va_get (D := (dC, dI)) (ci := 7) (v := .ref i0) (C := RX9) (T := TX9) (N := 28) hx hb hts inX9 hown hK hP 0 rfl rfl 17 (by decide) (hts _ (List.mem_of_getElem? (i := 1) rfl)) (fun _ h9 => h9) rfl dX9_kindTold_6 ?_
            refine va_alen (v := 6) hx hb hK hP 2 1 rfl rfl rfl dX9_kindTold_9 ?_
            refine lv_icmp_ge (tgt := 38) hx hb dX9_kindTold_10 (by decide) (fun c => absurd c (by decide)) (fun _ => ?_)
            refine lv_aload_n hx hb dX9_kindTold_13 rfl (lv_at hl 2 rfl) ?_
            refine lv_aload_n hx hb dX9_kindTold_14 rfl (lv_at hl 2 rfl) ?_
            refine va_get (D := (dC, dI)) (ci := 7) (v := .ref i0) (C := RX9) (T := TX9) (N := 28) hx hb hts inX9 hown hK hP 0 rfl rfl 17 (by decide) (hts _ (List.mem_of_getElem? (i := 1) rfl)) (fun _ h9 => h9) rfl dX9_kindTold_15 ?_
            refine lv_iload_n hx hb dX9_kindTold_18 rfl (lv_at hl 0 rfl) ?_
            refine va_aldq hx hb hK hP 2 1 rfl rfl (vp_in_nI (n := 5) (by decide) (by decide)) dX9_kindTold_19 ?_
            refine pp_tv (y := .ref (ad 18)) (congrArg va_rf (hjf 5 (by decide))) ?_
            have hPc := hP.sub (ws' := [(h0, .inr (7, [v0, v1, v2, v3, v4, v5, v6, v7, v8, v9, .ref e0, .int ts, .int bg, .int en, .int so, .int va, v16, .ref i0, v18, v19, v20, v21, v22, v23, v24, v25, v26, v27])), (e0, .inl (ec, 120, .inl ef))]) [0, 1] rfl
            have hKc := hK.sub (tys' := [(ec, .int)]) [0] rfl
            refine vp_callSi (W.runV (As := [.ref (ad 18)]) (rest := []) ⟨hx, hb, hml, hown, hts⟩ (m_isWord l dC dI ad h0 18 v0 v1 v2 v3 v4 v5 v6 v7 v8 v9 e0 ts bg en so va v16 (.ref i0) v18 v19 v20 v21 v22 v23 v24 v25 v26 v27 ec ef (by decide) htm hlx) (cwV 1 hts g_m_kindTold_m_isWord_231 rfl rfl rfl (by decide +kernel) ⟨(Nat.le_of_ble_eq_true rfl), (Nat.le_of_ble_eq_true rfl)⟩) ⟨preST_blind, va_recv hKc hPc (ci := 7) (q0 := 0) rfl rfl, fun U hU hW => ⟨rfl, preS_at hU hW hPc hKc hev, sf_at hsf hS (fun _ h => h.elim) hU hW⟩⟩ rfl rfl hl.1 rfl (lv_room (Nat.le_of_ble_eq_true rfl)) dX9_kindTold_20 ⟨(Nat.le_of_ble_eq_true rfl), (Nat.le_of_ble_eq_true rfl)⟩) (fun r_111 hw => ?_)
            have hr_111 : r_111.toInt = 0 ∨ (r_111.toInt = 1 ∧ so.toInt = 1) := hw
            refine lv_if_eq (tgt := 30) hx hb dX9_kindTold_23 (by decide) (fun c_112 => ?_) (fun c_112 => ?_)
            · skip
              have tc_112 : r_111.toInt = 0 := (fa_eq _ _).mp c_112
              refine lv_iload_n hx hb dX9_kindTold_30 rfl (lv_at hl 1 rfl) ?_
              refine lv_istore_n (lv' := [(1, .int 4), (2, .int 5), (0, .ref h0)]) hx hb dX9_kindTold_31 rfl hl (by decide) rfl (fun ls hl => ?_)
              refine lv_iinc (v := 6) (lv' := [(2, .int 6), (1, .int 4), (0, .ref h0)]) hx hb dX9_kindTold_32 hl (k := 1) rfl (by decide) (by decide) rfl (fun ls hl => ?_)
              refine lv_goto (tgt := 4) hx hb dX9_kindTold_35 (by decide) ?_
              refine lv_iload_n hx hb dX9_kindTold_4 rfl (lv_at hl 0 rfl) ?_
              refine lv_aload_n hx hb dX9_kindTold_5 rfl (lv_at hl 2 rfl) ?_
              refine va_get (D := (dC, dI)) (ci := 7) (v := .ref i0) (C := RX9) (T := TX9) (N := 28) hx hb hts inX9 hown hK hP 0 rfl rfl 17 (by decide) (hts _ (List.mem_of_getElem? (i := 1) rfl)) (fun _ h9 => h9) rfl dX9_kindTold_6 ?_
              refine va_alen (v := 6) hx hb hK hP 2 1 rfl rfl rfl dX9_kindTold_9 ?_
              refine lv_icmp_ge (tgt := 38) hx hb dX9_kindTold_10 (by decide) (fun _ => ?_) (fun c => absurd (by decide) c)
              refine lv_iload_n hx hb dX9_kindTold_38 rfl (lv_at hl 1 rfl) ?_
              exact W.iret (v := (4 : Int32)) hx hb hr (fun t ht hW => ⟨(4 : Int32), rfl, (by first | omega | decide | (simp only [fa_lt, fa_le, fa_eq, and_true, true_and, and_false, false_and, not_true_eq_false, not_false_eq_true, li_0, li_1, li_2, li_3, li_4, li_5, li_6, li_7, li_8, li_9, li_10, li_12, li_15, li_16, li_20, li_30, li_34, li_38, li_40, li_63, li_64, li_65, li_78, li_120, li_1000, li_4000, li_10000, li_11077, li_255, li_65535, li_m1, li_m2, li_m1000000001, li_m1000000002, li_m1000000003, li_m1000000004, li_m1000000005, li_m1000000006, li_m1000000007, or_true, true_or, or_false, false_or, implies_true, true_implies, false_implies] <;> omega)), ht⟩) (fun _ h => absurd h List.not_mem_nil) dX9_kindTold_39
            · skip
              have tc_112 : ¬ r_111.toInt = 0 := fun h => c_112 ((fa_eq _ _).mpr h)
              refine lv_iload_n hx hb dX9_kindTold_26 rfl (lv_at hl 0 rfl) ?_
              refine lv_goto (tgt := 31) hx hb dX9_kindTold_27 (by decide) ?_
              refine lv_istore_n (lv' := [(1, .int 5), (2, .int 5), (0, .ref h0)]) hx hb dX9_kindTold_31 rfl hl (by decide) rfl (fun ls hl => ?_)
              refine lv_iinc (v := 6) (lv' := [(2, .int 6), (1, .int 5), (0, .ref h0)]) hx hb dX9_kindTold_32 hl (k := 1) rfl (by decide) (by decide) rfl (fun ls hl => ?_)
              refine lv_goto (tgt := 4) hx hb dX9_kindTold_35 (by decide) ?_
              refine lv_iload_n hx hb dX9_kindTold_4 rfl (lv_at hl 0 rfl) ?_
              refine lv_aload_n hx hb dX9_kindTold_5 rfl (lv_at hl 2 rfl) ?_
              refine va_get (D := (dC, dI)) (ci := 7) (v := .ref i0) (C := RX9) (T := TX9) (N := 28) hx hb hts inX9 hown hK hP 0 rfl rfl 17 (by decide) (hts _ (List.mem_of_getElem? (i := 1) rfl)) (fun _ h9 => h9) rfl dX9_kindTold_6 ?_
              refine va_alen (v := 6) hx hb hK hP 2 1 rfl rfl rfl dX9_kindTold_9 ?_
              refine lv_icmp_ge (tgt := 38) hx hb dX9_kindTold_10 (by decide) (fun _ => ?_) (fun c => absurd (by decide) c)
              refine lv_iload_n hx hb dX9_kindTold_38 rfl (lv_at hl 1 rfl) ?_
              exact W.iret (v := (5 : Int32)) hx hb hr (fun t ht hW => ⟨(5 : Int32), rfl, (by first | omega | decide | (simp only [fa_lt, fa_le, fa_eq, and_true, true_and, and_false, false_and, not_true_eq_false, not_false_eq_true, li_0, li_1, li_2, li_3, li_4, li_5, li_6, li_7, li_8, li_9, li_10, li_12, li_15, li_16, li_20, li_30, li_34, li_38, li_40, li_63, li_64, li_65, li_78, li_120, li_1000, li_4000, li_10000, li_11077, li_255, li_65535, li_m1, li_m2, li_m1000000001, li_m1000000002, li_m1000000003, li_m1000000004, li_m1000000005, li_m1000000006, li_m1000000007, or_true, true_or, or_false, false_or, implies_true, true_implies, false_implies] <;> omega)), ht⟩) (fun _ h => absurd h List.not_mem_nil) dX9_kindTold_39
      · skip
        have tc_98 : ¬ r_97.toInt = 0 := fun h => c_98 ((fa_eq _ _).mpr h)
        refine lv_iload_n hx hb dX9_kindTold_26 rfl (lv_at hl 0 rfl) ?_
        refine lv_goto (tgt := 31) hx hb dX9_kindTold_27 (by decide) ?_
        refine lv_istore_n (lv' := [(1, .int 2), (2, .int 2), (0, .ref h0)]) hx hb dX9_kindTold_31 rfl hl (by decide) rfl (fun ls hl => ?_)
        refine lv_iinc (v := 3) (lv' := [(2, .int 3), (1, .int 2), (0, .ref h0)]) hx hb dX9_kindTold_32 hl (k := 1) rfl (by decide) (by decide) rfl (fun ls hl => ?_)
        refine lv_goto (tgt := 4) hx hb dX9_kindTold_35 (by decide) ?_
        refine lv_iload_n hx hb dX9_kindTold_4 rfl (lv_at hl 0 rfl) ?_
        refine lv_aload_n hx hb dX9_kindTold_5 rfl (lv_at hl 2 rfl) ?_
        refine va_get (D := (dC, dI)) (ci := 7) (v := .ref i0) (C := RX9) (T := TX9) (N := 28) hx hb hts inX9 hown hK hP 0 rfl rfl 17 (by decide) (hts _ (List.mem_of_getElem? (i := 1) rfl)) (fun _ h9 => h9) rfl dX9_kindTold_6 ?_
        refine va_alen (v := 6) hx hb hK hP 2 1 rfl rfl rfl dX9_kindTold_9 ?_
        refine lv_icmp_ge (tgt := 38) hx hb dX9_kindTold_10 (by decide) (fun c => absurd c (by decide)) (fun _ => ?_)
        refine lv_aload_n hx hb dX9_kindTold_13 rfl (lv_at hl 2 rfl) ?_
        refine lv_aload_n hx hb dX9_kindTold_14 rfl (lv_at hl 2 rfl) ?_
        refine va_get (D := (dC, dI)) (ci := 7) (v := .ref i0) (C := RX9) (T := TX9) (N := 28) hx hb hts inX9 hown hK hP 0 rfl rfl 17 (by decide) (hts _ (List.mem_of_getElem? (i := 1) rfl)) (fun _ h9 => h9) rfl dX9_kindTold_15 ?_
        refine lv_iload_n hx hb dX9_kindTold_18 rfl (lv_at hl 0 rfl) ?_
        refine va_aldq hx hb hK hP 2 1 rfl rfl (vp_in_nI (n := 3) (by decide) (by decide)) dX9_kindTold_19 ?_
        refine pp_tv (y := .ref (ad 16)) (congrArg va_rf (hjf 3 (by decide))) ?_
        have hPc := hP.sub (ws' := [(h0, .inr (7, [v0, v1, v2, v3, v4, v5, v6, v7, v8, v9, .ref e0, .int ts, .int bg, .int en, .int so, .int va, v16, .ref i0, v18, v19, v20, v21, v22, v23, v24, v25, v26, v27])), (e0, .inl (ec, 120, .inl ef))]) [0, 1] rfl
        have hKc := hK.sub (tys' := [(ec, .int)]) [0] rfl
        refine vp_callSi (W.runV (As := [.ref (ad 16)]) (rest := []) ⟨hx, hb, hml, hown, hts⟩ (m_isWord l dC dI ad h0 16 v0 v1 v2 v3 v4 v5 v6 v7 v8 v9 e0 ts bg en so va v16 (.ref i0) v18 v19 v20 v21 v22 v23 v24 v25 v26 v27 ec ef (by decide) htm hlx) (cwV 1 hts g_m_kindTold_m_isWord_231 rfl rfl rfl (by decide +kernel) ⟨(Nat.le_of_ble_eq_true rfl), (Nat.le_of_ble_eq_true rfl)⟩) ⟨preST_blind, va_recv hKc hPc (ci := 7) (q0 := 0) rfl rfl, fun U hU hW => ⟨rfl, preS_at hU hW hPc hKc hev, sf_at hsf hS (fun _ h => h.elim) hU hW⟩⟩ rfl rfl hl.1 rfl (lv_room (Nat.le_of_ble_eq_true rfl)) dX9_kindTold_20 ⟨(Nat.le_of_ble_eq_true rfl), (Nat.le_of_ble_eq_true rfl)⟩) (fun r_113 hw => ?_)
        have hr_113 : r_113.toInt = 0 ∨ (r_113.toInt = 1 ∧ so.toInt = 1) := hw
        refine lv_if_eq (tgt := 30) hx hb dX9_kindTold_23 (by decide) (fun c_114 => ?_) (fun c_114 => ?_)
        · skip
          have tc_114 : r_113.toInt = 0 := (fa_eq _ _).mp c_114
          refine lv_iload_n hx hb dX9_kindTold_30 rfl (lv_at hl 1 rfl) ?_
          refine lv_istore_n (lv' := [(1, .int 2), (2, .int 3), (0, .ref h0)]) hx hb dX9_kindTold_31 rfl hl (by decide) rfl (fun ls hl => ?_)
          refine lv_iinc (v := 4) (lv' := [(2, .int 4), (1, .int 2), (0, .ref h0)]) hx hb dX9_kindTold_32 hl (k := 1) rfl (by decide) (by decide) rfl (fun ls hl => ?_)
          refine lv_goto (tgt := 4) hx hb dX9_kindTold_35 (by decide) ?_
          refine lv_iload_n hx hb dX9_kindTold_4 rfl (lv_at hl 0 rfl) ?_
          refine lv_aload_n hx hb dX9_kindTold_5 rfl (lv_at hl 2 rfl) ?_
          refine va_get (D := (dC, dI)) (ci := 7) (v := .ref i0) (C := RX9) (T := TX9) (N := 28) hx hb hts inX9 hown hK hP 0 rfl rfl 17 (by decide) (hts _ (List.mem_of_getElem? (i := 1) rfl)) (fun _ h9 => h9) rfl dX9_kindTold_6 ?_
          refine va_alen (v := 6) hx hb hK hP 2 1 rfl rfl rfl dX9_kindTold_9 ?_
          refine lv_icmp_ge (tgt := 38) hx hb dX9_kindTold_10 (by decide) (fun c => absurd c (by decide)) (fun _ => ?_)
          refine lv_aload_n hx hb dX9_kindTold_13 rfl (lv_at hl 2 rfl) ?_
          refine lv_aload_n hx hb dX9_kindTold_14 rfl (lv_at hl 2 rfl) ?_
          refine va_get (D := (dC, dI)) (ci := 7) (v := .ref i0) (C := RX9) (T := TX9) (N := 28) hx hb hts inX9 hown hK hP 0 rfl rfl 17 (by decide) (hts _ (List.mem_of_getElem? (i := 1) rfl)) (fun _ h9 => h9) rfl dX9_kindTold_15 ?_
          refine lv_iload_n hx hb dX9_kindTold_18 rfl (lv_at hl 0 rfl) ?_
          refine va_aldq hx hb hK hP 2 1 rfl rfl (vp_in_nI (n := 4) (by decide) (by decide)) dX9_kindTold_19 ?_
          refine pp_tv (y := .ref (ad 17)) (congrArg va_rf (hjf 4 (by decide))) ?_
          have hPc := hP.sub (ws' := [(h0, .inr (7, [v0, v1, v2, v3, v4, v5, v6, v7, v8, v9, .ref e0, .int ts, .int bg, .int en, .int so, .int va, v16, .ref i0, v18, v19, v20, v21, v22, v23, v24, v25, v26, v27])), (e0, .inl (ec, 120, .inl ef))]) [0, 1] rfl
          have hKc := hK.sub (tys' := [(ec, .int)]) [0] rfl
          refine vp_callSi (W.runV (As := [.ref (ad 17)]) (rest := []) ⟨hx, hb, hml, hown, hts⟩ (m_isWord l dC dI ad h0 17 v0 v1 v2 v3 v4 v5 v6 v7 v8 v9 e0 ts bg en so va v16 (.ref i0) v18 v19 v20 v21 v22 v23 v24 v25 v26 v27 ec ef (by decide) htm hlx) (cwV 1 hts g_m_kindTold_m_isWord_231 rfl rfl rfl (by decide +kernel) ⟨(Nat.le_of_ble_eq_true rfl), (Nat.le_of_ble_eq_true rfl)⟩) ⟨preST_blind, va_recv hKc hPc (ci := 7) (q0 := 0) rfl rfl, fun U hU hW => ⟨rfl, preS_at hU hW hPc hKc hev, sf_at hsf hS (fun _ h => h.elim) hU hW⟩⟩ rfl rfl hl.1 rfl (lv_room (Nat.le_of_ble_eq_true rfl)) dX9_kindTold_20 ⟨(Nat.le_of_ble_eq_true rfl), (Nat.le_of_ble_eq_true rfl)⟩) (fun r_115 hw => ?_)
          have hr_115 : r_115.toInt = 0 ∨ (r_115.toInt = 1 ∧ so.toInt = 1) := hw
          refine lv_if_eq (tgt := 30) hx hb dX9_kindTold_23 (by decide) (fun c_116 => ?_) (fun c_116 => ?_)
          · skip
            have tc_116 : r_115.toInt = 0 := (fa_eq _ _).mp c_116
            refine lv_iload_n hx hb dX9_kindTold_30 rfl (lv_at hl 1 rfl) ?_
            refine lv_istore_n (lv' := [(1, .int 2), (2, .int 4), (0, .ref h0)]) hx hb dX9_kindTold_31 rfl hl (by decide) rfl (fun ls hl => ?_)
            refine lv_iinc (v := 5) (lv' := [(2, .int 5), (1, .int 2), (0, .ref h0)]) hx hb dX9_kindTold_32 hl (k := 1) rfl (by decide) (by decide) rfl (fun ls hl => ?_)
            refine lv_goto (tgt := 4) hx hb dX9_kindTold_35 (by decide) ?_
            refine lv_iload_n hx hb dX9_kindTold_4 rfl (lv_at hl 0 rfl) ?_
            refine lv_aload_n hx hb dX9_kindTold_5 rfl (lv_at hl 2 rfl) ?_
            refine va_get (D := (dC, dI)) (ci := 7) (v := .ref i0) (C := RX9) (T := TX9) (N := 28) hx hb hts inX9 hown hK hP 0 rfl rfl 17 (by decide) (hts _ (List.mem_of_getElem? (i := 1) rfl)) (fun _ h9 => h9) rfl dX9_kindTold_6 ?_
            refine va_alen (v := 6) hx hb hK hP 2 1 rfl rfl rfl dX9_kindTold_9 ?_
            refine lv_icmp_ge (tgt := 38) hx hb dX9_kindTold_10 (by decide) (fun c => absurd c (by decide)) (fun _ => ?_)
            refine lv_aload_n hx hb dX9_kindTold_13 rfl (lv_at hl 2 rfl) ?_
            refine lv_aload_n hx hb dX9_kindTold_14 rfl (lv_at hl 2 rfl) ?_
            refine va_get (D := (dC, dI)) (ci := 7) (v := .ref i0) (C := RX9) (T := TX9) (N := 28) hx hb hts inX9 hown hK hP 0 rfl rfl 17 (by decide) (hts _ (List.mem_of_getElem? (i := 1) rfl)) (fun _ h9 => h9) rfl dX9_kindTold_15 ?_
            refine lv_iload_n hx hb dX9_kindTold_18 rfl (lv_at hl 0 rfl) ?_
            refine va_aldq hx hb hK hP 2 1 rfl rfl (vp_in_nI (n := 5) (by decide) (by decide)) dX9_kindTold_19 ?_
            refine pp_tv (y := .ref (ad 18)) (congrArg va_rf (hjf 5 (by decide))) ?_
            have hPc := hP.sub (ws' := [(h0, .inr (7, [v0, v1, v2, v3, v4, v5, v6, v7, v8, v9, .ref e0, .int ts, .int bg, .int en, .int so, .int va, v16, .ref i0, v18, v19, v20, v21, v22, v23, v24, v25, v26, v27])), (e0, .inl (ec, 120, .inl ef))]) [0, 1] rfl
            have hKc := hK.sub (tys' := [(ec, .int)]) [0] rfl
            refine vp_callSi (W.runV (As := [.ref (ad 18)]) (rest := []) ⟨hx, hb, hml, hown, hts⟩ (m_isWord l dC dI ad h0 18 v0 v1 v2 v3 v4 v5 v6 v7 v8 v9 e0 ts bg en so va v16 (.ref i0) v18 v19 v20 v21 v22 v23 v24 v25 v26 v27 ec ef (by decide) htm hlx) (cwV 1 hts g_m_kindTold_m_isWord_231 rfl rfl rfl (by decide +kernel) ⟨(Nat.le_of_ble_eq_true rfl), (Nat.le_of_ble_eq_true rfl)⟩) ⟨preST_blind, va_recv hKc hPc (ci := 7) (q0 := 0) rfl rfl, fun U hU hW => ⟨rfl, preS_at hU hW hPc hKc hev, sf_at hsf hS (fun _ h => h.elim) hU hW⟩⟩ rfl rfl hl.1 rfl (lv_room (Nat.le_of_ble_eq_true rfl)) dX9_kindTold_20 ⟨(Nat.le_of_ble_eq_true rfl), (Nat.le_of_ble_eq_true rfl)⟩) (fun r_117 hw => ?_)
            have hr_117 : r_117.toInt = 0 ∨ (r_117.toInt = 1 ∧ so.toInt = 1) := hw
            refine lv_if_eq (tgt := 30) hx hb dX9_kindTold_23 (by decide) (fun c_118 => ?_) (fun c_118 => ?_)
            · skip
              have tc_118 : r_117.toInt = 0 := (fa_eq _ _).mp c_118
              refine lv_iload_n hx hb dX9_kindTold_30 rfl (lv_at hl 1 rfl) ?_
              refine lv_istore_n (lv' := [(1, .int 2), (2, .int 5), (0, .ref h0)]) hx hb dX9_kindTold_31 rfl hl (by decide) rfl (fun ls hl => ?_)
              refine lv_iinc (v := 6) (lv' := [(2, .int 6), (1, .int 2), (0, .ref h0)]) hx hb dX9_kindTold_32 hl (k := 1) rfl (by decide) (by decide) rfl (fun ls hl => ?_)
              refine lv_goto (tgt := 4) hx hb dX9_kindTold_35 (by decide) ?_
              refine lv_iload_n hx hb dX9_kindTold_4 rfl (lv_at hl 0 rfl) ?_
              refine lv_aload_n hx hb dX9_kindTold_5 rfl (lv_at hl 2 rfl) ?_
              refine va_get (D := (dC, dI)) (ci := 7) (v := .ref i0) (C := RX9) (T := TX9) (N := 28) hx hb hts inX9 hown hK hP 0 rfl rfl 17 (by decide) (hts _ (List.mem_of_getElem? (i := 1) rfl)) (fun _ h9 => h9) rfl dX9_kindTold_6 ?_
              refine va_alen (v := 6) hx hb hK hP 2 1 rfl rfl rfl dX9_kindTold_9 ?_
              refine lv_icmp_ge (tgt := 38) hx hb dX9_kindTold_10 (by decide) (fun _ => ?_) (fun c => absurd (by decide) c)
              refine lv_iload_n hx hb dX9_kindTold_38 rfl (lv_at hl 1 rfl) ?_
              exact W.iret (v := (2 : Int32)) hx hb hr (fun t ht hW => ⟨(2 : Int32), rfl, (by first | omega | decide | (simp only [fa_lt, fa_le, fa_eq, and_true, true_and, and_false, false_and, not_true_eq_false, not_false_eq_true, li_0, li_1, li_2, li_3, li_4, li_5, li_6, li_7, li_8, li_9, li_10, li_12, li_15, li_16, li_20, li_30, li_34, li_38, li_40, li_63, li_64, li_65, li_78, li_120, li_1000, li_4000, li_10000, li_11077, li_255, li_65535, li_m1, li_m2, li_m1000000001, li_m1000000002, li_m1000000003, li_m1000000004, li_m1000000005, li_m1000000006, li_m1000000007, or_true, true_or, or_false, false_or, implies_true, true_implies, false_implies] <;> omega)), ht⟩) (fun _ h => absurd h List.not_mem_nil) dX9_kindTold_39
            · skip
              have tc_118 : ¬ r_117.toInt = 0 := fun h => c_118 ((fa_eq _ _).mpr h)
              refine lv_iload_n hx hb dX9_kindTold_26 rfl (lv_at hl 0 rfl) ?_
              refine lv_goto (tgt := 31) hx hb dX9_kindTold_27 (by decide) ?_
              refine lv_istore_n (lv' := [(1, .int 5), (2, .int 5), (0, .ref h0)]) hx hb dX9_kindTold_31 rfl hl (by decide) rfl (fun ls hl => ?_)
              refine lv_iinc (v := 6) (lv' := [(2, .int 6), (1, .int 5), (0, .ref h0)]) hx hb dX9_kindTold_32 hl (k := 1) rfl (by decide) (by decide) rfl (fun ls hl => ?_)
              refine lv_goto (tgt := 4) hx hb dX9_kindTold_35 (by decide) ?_
              refine lv_iload_n hx hb dX9_kindTold_4 rfl (lv_at hl 0 rfl) ?_
              refine lv_aload_n hx hb dX9_kindTold_5 rfl (lv_at hl 2 rfl) ?_
              refine va_get (D := (dC, dI)) (ci := 7) (v := .ref i0) (C := RX9) (T := TX9) (N := 28) hx hb hts inX9 hown hK hP 0 rfl rfl 17 (by decide) (hts _ (List.mem_of_getElem? (i := 1) rfl)) (fun _ h9 => h9) rfl dX9_kindTold_6 ?_
              refine va_alen (v := 6) hx hb hK hP 2 1 rfl rfl rfl dX9_kindTold_9 ?_
              refine lv_icmp_ge (tgt := 38) hx hb dX9_kindTold_10 (by decide) (fun _ => ?_) (fun c => absurd (by decide) c)
              refine lv_iload_n hx hb dX9_kindTold_38 rfl (lv_at hl 1 rfl) ?_
              exact W.iret (v := (5 : Int32)) hx hb hr (fun t ht hW => ⟨(5 : Int32), rfl, (by first | omega | decide | (simp only [fa_lt, fa_le, fa_eq, and_true, true_and, and_false, false_and, not_true_eq_false, not_false_eq_true, li_0, li_1, li_2, li_3, li_4, li_5, li_6, li_7, li_8, li_9, li_10, li_12, li_15, li_16, li_20, li_30, li_34, li_38, li_40, li_63, li_64, li_65, li_78, li_120, li_1000, li_4000, li_10000, li_11077, li_255, li_65535, li_m1, li_m2, li_m1000000001, li_m1000000002, li_m1000000003, li_m1000000004, li_m1000000005, li_m1000000006, li_m1000000007, or_true, true_or, or_false, false_or, implies_true, true_implies, false_implies] <;> omega)), ht⟩) (fun _ h => absurd h List.not_mem_nil) dX9_kindTold_39
          · skip
            have tc_116 : ¬ r_115.toInt = 0 := fun h => c_116 ((fa_eq _ _).mpr h)
            refine lv_iload_n hx hb dX9_kindTold_26 rfl (lv_at hl 0 rfl) ?_
            refine lv_goto (tgt := 31) hx hb dX9_kindTold_27 (by decide) ?_
            refine lv_istore_n (lv' := [(1, .int 4), (2, .int 4), (0, .ref h0)]) hx hb dX9_kindTold_31 rfl hl (by decide) rfl (fun ls hl => ?_)
            refine lv_iinc (v := 5) (lv' := [(2, .int 5), (1, .int 4), (0, .ref h0)]) hx hb dX9_kindTold_32 hl (k := 1) rfl (by decide) (by decide) rfl (fun ls hl => ?_)
            refine lv_goto (tgt := 4) hx hb dX9_kindTold_35 (by decide) ?_
            refine lv_iload_n hx hb dX9_kindTold_4 rfl (lv_at hl 0 rfl) ?_
            refine lv_aload_n hx hb dX9_kindTold_5 rfl (lv_at hl 2 rfl) ?_
            refine va_get (D := (dC, dI)) (ci := 7) (v := .ref i0) (C := RX9) (T := TX9) (N := 28) hx hb hts inX9 hown hK hP 0 rfl rfl 17 (by decide) (hts _ (List.mem_of_getElem? (i := 1) rfl)) (fun _ h9 => h9) rfl dX9_kindTold_6 ?_
            refine va_alen (v := 6) hx hb hK hP 2 1 rfl rfl rfl dX9_kindTold_9 ?_
            refine lv_icmp_ge (tgt := 38) hx hb dX9_kindTold_10 (by decide) (fun c => absurd c (by decide)) (fun _ => ?_)
            refine lv_aload_n hx hb dX9_kindTold_13 rfl (lv_at hl 2 rfl) ?_
            refine lv_aload_n hx hb dX9_kindTold_14 rfl (lv_at hl 2 rfl) ?_
            refine va_get (D := (dC, dI)) (ci := 7) (v := .ref i0) (C := RX9) (T := TX9) (N := 28) hx hb hts inX9 hown hK hP 0 rfl rfl 17 (by decide) (hts _ (List.mem_of_getElem? (i := 1) rfl)) (fun _ h9 => h9) rfl dX9_kindTold_15 ?_
            refine lv_iload_n hx hb dX9_kindTold_18 rfl (lv_at hl 0 rfl) ?_
            refine va_aldq hx hb hK hP 2 1 rfl rfl (vp_in_nI (n := 5) (by decide) (by decide)) dX9_kindTold_19 ?_
            refine pp_tv (y := .ref (ad 18)) (congrArg va_rf (hjf 5 (by decide))) ?_
            have hPc := hP.sub (ws' := [(h0, .inr (7, [v0, v1, v2, v3, v4, v5, v6, v7, v8, v9, .ref e0, .int ts, .int bg, .int en, .int so, .int va, v16, .ref i0, v18, v19, v20, v21, v22, v23, v24, v25, v26, v27])), (e0, .inl (ec, 120, .inl ef))]) [0, 1] rfl
            have hKc := hK.sub (tys' := [(ec, .int)]) [0] rfl
            refine vp_callSi (W.runV (As := [.ref (ad 18)]) (rest := []) ⟨hx, hb, hml, hown, hts⟩ (m_isWord l dC dI ad h0 18 v0 v1 v2 v3 v4 v5 v6 v7 v8 v9 e0 ts bg en so va v16 (.ref i0) v18 v19 v20 v21 v22 v23 v24 v25 v26 v27 ec ef (by decide) htm hlx) (cwV 1 hts g_m_kindTold_m_isWord_231 rfl rfl rfl (by decide +kernel) ⟨(Nat.le_of_ble_eq_true rfl), (Nat.le_of_ble_eq_true rfl)⟩) ⟨preST_blind, va_recv hKc hPc (ci := 7) (q0 := 0) rfl rfl, fun U hU hW => ⟨rfl, preS_at hU hW hPc hKc hev, sf_at hsf hS (fun _ h => h.elim) hU hW⟩⟩ rfl rfl hl.1 rfl (lv_room (Nat.le_of_ble_eq_true rfl)) dX9_kindTold_20 ⟨(Nat.le_of_ble_eq_true rfl), (Nat.le_of_ble_eq_true rfl)⟩) (fun r_119 hw => ?_)
            have hr_119 : r_119.toInt = 0 ∨ (r_119.toInt = 1 ∧ so.toInt = 1) := hw
            refine lv_if_eq (tgt := 30) hx hb dX9_kindTold_23 (by decide) (fun c_120 => ?_) (fun c_120 => ?_)
            · skip
              have tc_120 : r_119.toInt = 0 := (fa_eq _ _).mp c_120
              refine lv_iload_n hx hb dX9_kindTold_30 rfl (lv_at hl 1 rfl) ?_
              refine lv_istore_n (lv' := [(1, .int 4), (2, .int 5), (0, .ref h0)]) hx hb dX9_kindTold_31 rfl hl (by decide) rfl (fun ls hl => ?_)
              refine lv_iinc (v := 6) (lv' := [(2, .int 6), (1, .int 4), (0, .ref h0)]) hx hb dX9_kindTold_32 hl (k := 1) rfl (by decide) (by decide) rfl (fun ls hl => ?_)
              refine lv_goto (tgt := 4) hx hb dX9_kindTold_35 (by decide) ?_
              refine lv_iload_n hx hb dX9_kindTold_4 rfl (lv_at hl 0 rfl) ?_
              refine lv_aload_n hx hb dX9_kindTold_5 rfl (lv_at hl 2 rfl) ?_
              refine va_get (D := (dC, dI)) (ci := 7) (v := .ref i0) (C := RX9) (T := TX9) (N := 28) hx hb hts inX9 hown hK hP 0 rfl rfl 17 (by decide) (hts _ (List.mem_of_getElem? (i := 1) rfl)) (fun _ h9 => h9) rfl dX9_kindTold_6 ?_
              refine va_alen (v := 6) hx hb hK hP 2 1 rfl rfl rfl dX9_kindTold_9 ?_
              refine lv_icmp_ge (tgt := 38) hx hb dX9_kindTold_10 (by decide) (fun _ => ?_) (fun c => absurd (by decide) c)
              refine lv_iload_n hx hb dX9_kindTold_38 rfl (lv_at hl 1 rfl) ?_
              exact W.iret (v := (4 : Int32)) hx hb hr (fun t ht hW => ⟨(4 : Int32), rfl, (by first | omega | decide | (simp only [fa_lt, fa_le, fa_eq, and_true, true_and, and_false, false_and, not_true_eq_false, not_false_eq_true, li_0, li_1, li_2, li_3, li_4, li_5, li_6, li_7, li_8, li_9, li_10, li_12, li_15, li_16, li_20, li_30, li_34, li_38, li_40, li_63, li_64, li_65, li_78, li_120, li_1000, li_4000, li_10000, li_11077, li_255, li_65535, li_m1, li_m2, li_m1000000001, li_m1000000002, li_m1000000003, li_m1000000004, li_m1000000005, li_m1000000006, li_m1000000007, or_true, true_or, or_false, false_or, implies_true, true_implies, false_implies] <;> omega)), ht⟩) (fun _ h => absurd h List.not_mem_nil) dX9_kindTold_39
            · skip
              have tc_120 : ¬ r_119.toInt = 0 := fun h => c_120 ((fa_eq _ _).mpr h)
              refine lv_iload_n hx hb dX9_kindTold_26 rfl (lv_at hl 0 rfl) ?_
              refine lv_goto (tgt := 31) hx hb dX9_kindTold_27 (by decide) ?_
              refine lv_istore_n (lv' := [(1, .int 5), (2, .int 5), (0, .ref h0)]) hx hb dX9_kindTold_31 rfl hl (by decide) rfl (fun ls hl => ?_)
              refine lv_iinc (v := 6) (lv' := [(2, .int 6), (1, .int 5), (0, .ref h0)]) hx hb dX9_kindTold_32 hl (k := 1) rfl (by decide) (by decide) rfl (fun ls hl => ?_)
              refine lv_goto (tgt := 4) hx hb dX9_kindTold_35 (by decide) ?_
              refine lv_iload_n hx hb dX9_kindTold_4 rfl (lv_at hl 0 rfl) ?_
              refine lv_aload_n hx hb dX9_kindTold_5 rfl (lv_at hl 2 rfl) ?_
              refine va_get (D := (dC, dI)) (ci := 7) (v := .ref i0) (C := RX9) (T := TX9) (N := 28) hx hb hts inX9 hown hK hP 0 rfl rfl 17 (by decide) (hts _ (List.mem_of_getElem? (i := 1) rfl)) (fun _ h9 => h9) rfl dX9_kindTold_6 ?_
              refine va_alen (v := 6) hx hb hK hP 2 1 rfl rfl rfl dX9_kindTold_9 ?_
              refine lv_icmp_ge (tgt := 38) hx hb dX9_kindTold_10 (by decide) (fun _ => ?_) (fun c => absurd (by decide) c)
              refine lv_iload_n hx hb dX9_kindTold_38 rfl (lv_at hl 1 rfl) ?_
              exact W.iret (v := (5 : Int32)) hx hb hr (fun t ht hW => ⟨(5 : Int32), rfl, (by first | omega | decide | (simp only [fa_lt, fa_le, fa_eq, and_true, true_and, and_false, false_and, not_true_eq_false, not_false_eq_true, li_0, li_1, li_2, li_3, li_4, li_5, li_6, li_7, li_8, li_9, li_10, li_12, li_15, li_16, li_20, li_30, li_34, li_38, li_40, li_63, li_64, li_65, li_78, li_120, li_1000, li_4000, li_10000, li_11077, li_255, li_65535, li_m1, li_m2, li_m1000000001, li_m1000000002, li_m1000000003, li_m1000000004, li_m1000000005, li_m1000000006, li_m1000000007, or_true, true_or, or_false, false_or, implies_true, true_implies, false_implies] <;> omega)), ht⟩) (fun _ h => absurd h List.not_mem_nil) dX9_kindTold_39
        · skip
          have tc_114 : ¬ r_113.toInt = 0 := fun h => c_114 ((fa_eq _ _).mpr h)
          refine lv_iload_n hx hb dX9_kindTold_26 rfl (lv_at hl 0 rfl) ?_
          refine lv_goto (tgt := 31) hx hb dX9_kindTold_27 (by decide) ?_
          refine lv_istore_n (lv' := [(1, .int 3), (2, .int 3), (0, .ref h0)]) hx hb dX9_kindTold_31 rfl hl (by decide) rfl (fun ls hl => ?_)
          refine lv_iinc (v := 4) (lv' := [(2, .int 4), (1, .int 3), (0, .ref h0)]) hx hb dX9_kindTold_32 hl (k := 1) rfl (by decide) (by decide) rfl (fun ls hl => ?_)
          refine lv_goto (tgt := 4) hx hb dX9_kindTold_35 (by decide) ?_
          refine lv_iload_n hx hb dX9_kindTold_4 rfl (lv_at hl 0 rfl) ?_
          refine lv_aload_n hx hb dX9_kindTold_5 rfl (lv_at hl 2 rfl) ?_
          refine va_get (D := (dC, dI)) (ci := 7) (v := .ref i0) (C := RX9) (T := TX9) (N := 28) hx hb hts inX9 hown hK hP 0 rfl rfl 17 (by decide) (hts _ (List.mem_of_getElem? (i := 1) rfl)) (fun _ h9 => h9) rfl dX9_kindTold_6 ?_
          refine va_alen (v := 6) hx hb hK hP 2 1 rfl rfl rfl dX9_kindTold_9 ?_
          refine lv_icmp_ge (tgt := 38) hx hb dX9_kindTold_10 (by decide) (fun c => absurd c (by decide)) (fun _ => ?_)
          refine lv_aload_n hx hb dX9_kindTold_13 rfl (lv_at hl 2 rfl) ?_
          refine lv_aload_n hx hb dX9_kindTold_14 rfl (lv_at hl 2 rfl) ?_
          refine va_get (D := (dC, dI)) (ci := 7) (v := .ref i0) (C := RX9) (T := TX9) (N := 28) hx hb hts inX9 hown hK hP 0 rfl rfl 17 (by decide) (hts _ (List.mem_of_getElem? (i := 1) rfl)) (fun _ h9 => h9) rfl dX9_kindTold_15 ?_
          refine lv_iload_n hx hb dX9_kindTold_18 rfl (lv_at hl 0 rfl) ?_
          refine va_aldq hx hb hK hP 2 1 rfl rfl (vp_in_nI (n := 4) (by decide) (by decide)) dX9_kindTold_19 ?_
          refine pp_tv (y := .ref (ad 17)) (congrArg va_rf (hjf 4 (by decide))) ?_
          have hPc := hP.sub (ws' := [(h0, .inr (7, [v0, v1, v2, v3, v4, v5, v6, v7, v8, v9, .ref e0, .int ts, .int bg, .int en, .int so, .int va, v16, .ref i0, v18, v19, v20, v21, v22, v23, v24, v25, v26, v27])), (e0, .inl (ec, 120, .inl ef))]) [0, 1] rfl
          have hKc := hK.sub (tys' := [(ec, .int)]) [0] rfl
          refine vp_callSi (W.runV (As := [.ref (ad 17)]) (rest := []) ⟨hx, hb, hml, hown, hts⟩ (m_isWord l dC dI ad h0 17 v0 v1 v2 v3 v4 v5 v6 v7 v8 v9 e0 ts bg en so va v16 (.ref i0) v18 v19 v20 v21 v22 v23 v24 v25 v26 v27 ec ef (by decide) htm hlx) (cwV 1 hts g_m_kindTold_m_isWord_231 rfl rfl rfl (by decide +kernel) ⟨(Nat.le_of_ble_eq_true rfl), (Nat.le_of_ble_eq_true rfl)⟩) ⟨preST_blind, va_recv hKc hPc (ci := 7) (q0 := 0) rfl rfl, fun U hU hW => ⟨rfl, preS_at hU hW hPc hKc hev, sf_at hsf hS (fun _ h => h.elim) hU hW⟩⟩ rfl rfl hl.1 rfl (lv_room (Nat.le_of_ble_eq_true rfl)) dX9_kindTold_20 ⟨(Nat.le_of_ble_eq_true rfl), (Nat.le_of_ble_eq_true rfl)⟩) (fun r_121 hw => ?_)
          have hr_121 : r_121.toInt = 0 ∨ (r_121.toInt = 1 ∧ so.toInt = 1) := hw
          refine lv_if_eq (tgt := 30) hx hb dX9_kindTold_23 (by decide) (fun c_122 => ?_) (fun c_122 => ?_)
          · skip
            have tc_122 : r_121.toInt = 0 := (fa_eq _ _).mp c_122
            refine lv_iload_n hx hb dX9_kindTold_30 rfl (lv_at hl 1 rfl) ?_
            refine lv_istore_n (lv' := [(1, .int 3), (2, .int 4), (0, .ref h0)]) hx hb dX9_kindTold_31 rfl hl (by decide) rfl (fun ls hl => ?_)
            refine lv_iinc (v := 5) (lv' := [(2, .int 5), (1, .int 3), (0, .ref h0)]) hx hb dX9_kindTold_32 hl (k := 1) rfl (by decide) (by decide) rfl (fun ls hl => ?_)
            refine lv_goto (tgt := 4) hx hb dX9_kindTold_35 (by decide) ?_
            refine lv_iload_n hx hb dX9_kindTold_4 rfl (lv_at hl 0 rfl) ?_
            refine lv_aload_n hx hb dX9_kindTold_5 rfl (lv_at hl 2 rfl) ?_
            refine va_get (D := (dC, dI)) (ci := 7) (v := .ref i0) (C := RX9) (T := TX9) (N := 28) hx hb hts inX9 hown hK hP 0 rfl rfl 17 (by decide) (hts _ (List.mem_of_getElem? (i := 1) rfl)) (fun _ h9 => h9) rfl dX9_kindTold_6 ?_
            refine va_alen (v := 6) hx hb hK hP 2 1 rfl rfl rfl dX9_kindTold_9 ?_
            refine lv_icmp_ge (tgt := 38) hx hb dX9_kindTold_10 (by decide) (fun c => absurd c (by decide)) (fun _ => ?_)
            refine lv_aload_n hx hb dX9_kindTold_13 rfl (lv_at hl 2 rfl) ?_
            refine lv_aload_n hx hb dX9_kindTold_14 rfl (lv_at hl 2 rfl) ?_
            refine va_get (D := (dC, dI)) (ci := 7) (v := .ref i0) (C := RX9) (T := TX9) (N := 28) hx hb hts inX9 hown hK hP 0 rfl rfl 17 (by decide) (hts _ (List.mem_of_getElem? (i := 1) rfl)) (fun _ h9 => h9) rfl dX9_kindTold_15 ?_
            refine lv_iload_n hx hb dX9_kindTold_18 rfl (lv_at hl 0 rfl) ?_
            refine va_aldq hx hb hK hP 2 1 rfl rfl (vp_in_nI (n := 5) (by decide) (by decide)) dX9_kindTold_19 ?_
            refine pp_tv (y := .ref (ad 18)) (congrArg va_rf (hjf 5 (by decide))) ?_
            have hPc := hP.sub (ws' := [(h0, .inr (7, [v0, v1, v2, v3, v4, v5, v6, v7, v8, v9, .ref e0, .int ts, .int bg, .int en, .int so, .int va, v16, .ref i0, v18, v19, v20, v21, v22, v23, v24, v25, v26, v27])), (e0, .inl (ec, 120, .inl ef))]) [0, 1] rfl
            have hKc := hK.sub (tys' := [(ec, .int)]) [0] rfl
            refine vp_callSi (W.runV (As := [.ref (ad 18)]) (rest := []) ⟨hx, hb, hml, hown, hts⟩ (m_isWord l dC dI ad h0 18 v0 v1 v2 v3 v4 v5 v6 v7 v8 v9 e0 ts bg en so va v16 (.ref i0) v18 v19 v20 v21 v22 v23 v24 v25 v26 v27 ec ef (by decide) htm hlx) (cwV 1 hts g_m_kindTold_m_isWord_231 rfl rfl rfl (by decide +kernel) ⟨(Nat.le_of_ble_eq_true rfl), (Nat.le_of_ble_eq_true rfl)⟩) ⟨preST_blind, va_recv hKc hPc (ci := 7) (q0 := 0) rfl rfl, fun U hU hW => ⟨rfl, preS_at hU hW hPc hKc hev, sf_at hsf hS (fun _ h => h.elim) hU hW⟩⟩ rfl rfl hl.1 rfl (lv_room (Nat.le_of_ble_eq_true rfl)) dX9_kindTold_20 ⟨(Nat.le_of_ble_eq_true rfl), (Nat.le_of_ble_eq_true rfl)⟩) (fun r_123 hw => ?_)
            have hr_123 : r_123.toInt = 0 ∨ (r_123.toInt = 1 ∧ so.toInt = 1) := hw
            refine lv_if_eq (tgt := 30) hx hb dX9_kindTold_23 (by decide) (fun c_124 => ?_) (fun c_124 => ?_)
            · skip
              have tc_124 : r_123.toInt = 0 := (fa_eq _ _).mp c_124
              refine lv_iload_n hx hb dX9_kindTold_30 rfl (lv_at hl 1 rfl) ?_
              refine lv_istore_n (lv' := [(1, .int 3), (2, .int 5), (0, .ref h0)]) hx hb dX9_kindTold_31 rfl hl (by decide) rfl (fun ls hl => ?_)
              refine lv_iinc (v := 6) (lv' := [(2, .int 6), (1, .int 3), (0, .ref h0)]) hx hb dX9_kindTold_32 hl (k := 1) rfl (by decide) (by decide) rfl (fun ls hl => ?_)
              refine lv_goto (tgt := 4) hx hb dX9_kindTold_35 (by decide) ?_
              refine lv_iload_n hx hb dX9_kindTold_4 rfl (lv_at hl 0 rfl) ?_
              refine lv_aload_n hx hb dX9_kindTold_5 rfl (lv_at hl 2 rfl) ?_
              refine va_get (D := (dC, dI)) (ci := 7) (v := .ref i0) (C := RX9) (T := TX9) (N := 28) hx hb hts inX9 hown hK hP 0 rfl rfl 17 (by decide) (hts _ (List.mem_of_getElem? (i := 1) rfl)) (fun _ h9 => h9) rfl dX9_kindTold_6 ?_
              refine va_alen (v := 6) hx hb hK hP 2 1 rfl rfl rfl dX9_kindTold_9 ?_
              refine lv_icmp_ge (tgt := 38) hx hb dX9_kindTold_10 (by decide) (fun _ => ?_) (fun c => absurd (by decide) c)
              refine lv_iload_n hx hb dX9_kindTold_38 rfl (lv_at hl 1 rfl) ?_
              exact W.iret (v := (3 : Int32)) hx hb hr (fun t ht hW => ⟨(3 : Int32), rfl, (by first | omega | decide | (simp only [fa_lt, fa_le, fa_eq, and_true, true_and, and_false, false_and, not_true_eq_false, not_false_eq_true, li_0, li_1, li_2, li_3, li_4, li_5, li_6, li_7, li_8, li_9, li_10, li_12, li_15, li_16, li_20, li_30, li_34, li_38, li_40, li_63, li_64, li_65, li_78, li_120, li_1000, li_4000, li_10000, li_11077, li_255, li_65535, li_m1, li_m2, li_m1000000001, li_m1000000002, li_m1000000003, li_m1000000004, li_m1000000005, li_m1000000006, li_m1000000007, or_true, true_or, or_false, false_or, implies_true, true_implies, false_implies] <;> omega)), ht⟩) (fun _ h => absurd h List.not_mem_nil) dX9_kindTold_39
            · skip
              have tc_124 : ¬ r_123.toInt = 0 := fun h => c_124 ((fa_eq _ _).mpr h)
              refine lv_iload_n hx hb dX9_kindTold_26 rfl (lv_at hl 0 rfl) ?_
              refine lv_goto (tgt := 31) hx hb dX9_kindTold_27 (by decide) ?_
              refine lv_istore_n (lv' := [(1, .int 5), (2, .int 5), (0, .ref h0)]) hx hb dX9_kindTold_31 rfl hl (by decide) rfl (fun ls hl => ?_)
              refine lv_iinc (v := 6) (lv' := [(2, .int 6), (1, .int 5), (0, .ref h0)]) hx hb dX9_kindTold_32 hl (k := 1) rfl (by decide) (by decide) rfl (fun ls hl => ?_)
              refine lv_goto (tgt := 4) hx hb dX9_kindTold_35 (by decide) ?_
              refine lv_iload_n hx hb dX9_kindTold_4 rfl (lv_at hl 0 rfl) ?_
              refine lv_aload_n hx hb dX9_kindTold_5 rfl (lv_at hl 2 rfl) ?_
              refine va_get (D := (dC, dI)) (ci := 7) (v := .ref i0) (C := RX9) (T := TX9) (N := 28) hx hb hts inX9 hown hK hP 0 rfl rfl 17 (by decide) (hts _ (List.mem_of_getElem? (i := 1) rfl)) (fun _ h9 => h9) rfl dX9_kindTold_6 ?_
              refine va_alen (v := 6) hx hb hK hP 2 1 rfl rfl rfl dX9_kindTold_9 ?_
              refine lv_icmp_ge (tgt := 38) hx hb dX9_kindTold_10 (by decide) (fun _ => ?_) (fun c => absurd (by decide) c)
              refine lv_iload_n hx hb dX9_kindTold_38 rfl (lv_at hl 1 rfl) ?_
              exact W.iret (v := (5 : Int32)) hx hb hr (fun t ht hW => ⟨(5 : Int32), rfl, (by first | omega | decide | (simp only [fa_lt, fa_le, fa_eq, and_true, true_and, and_false, false_and, not_true_eq_false, not_false_eq_true, li_0, li_1, li_2, li_3, li_4, li_5, li_6, li_7, li_8, li_9, li_10, li_12, li_15, li_16, li_20, li_30, li_34, li_38, li_40, li_63, li_64, li_65, li_78, li_120, li_1000, li_4000, li_10000, li_11077, li_255, li_65535, li_m1, li_m2, li_m1000000001, li_m1000000002, li_m1000000003, li_m1000000004, li_m1000000005, li_m1000000006, li_m1000000007, or_true, true_or, or_false, false_or, implies_true, true_implies, false_implies] <;> omega)), ht⟩) (fun _ h => absurd h List.not_mem_nil) dX9_kindTold_39
          · skip
            have tc_122 : ¬ r_121.toInt = 0 := fun h => c_122 ((fa_eq _ _).mpr h)
            refine lv_iload_n hx hb dX9_kindTold_26 rfl (lv_at hl 0 rfl) ?_
            refine lv_goto (tgt := 31) hx hb dX9_kindTold_27 (by decide) ?_
            refine lv_istore_n (lv' := [(1, .int 4), (2, .int 4), (0, .ref h0)]) hx hb dX9_kindTold_31 rfl hl (by decide) rfl (fun ls hl => ?_)
            refine lv_iinc (v := 5) (lv' := [(2, .int 5), (1, .int 4), (0, .ref h0)]) hx hb dX9_kindTold_32 hl (k := 1) rfl (by decide) (by decide) rfl (fun ls hl => ?_)
            refine lv_goto (tgt := 4) hx hb dX9_kindTold_35 (by decide) ?_
            refine lv_iload_n hx hb dX9_kindTold_4 rfl (lv_at hl 0 rfl) ?_
            refine lv_aload_n hx hb dX9_kindTold_5 rfl (lv_at hl 2 rfl) ?_
            refine va_get (D := (dC, dI)) (ci := 7) (v := .ref i0) (C := RX9) (T := TX9) (N := 28) hx hb hts inX9 hown hK hP 0 rfl rfl 17 (by decide) (hts _ (List.mem_of_getElem? (i := 1) rfl)) (fun _ h9 => h9) rfl dX9_kindTold_6 ?_
            refine va_alen (v := 6) hx hb hK hP 2 1 rfl rfl rfl dX9_kindTold_9 ?_
            refine lv_icmp_ge (tgt := 38) hx hb dX9_kindTold_10 (by decide) (fun c => absurd c (by decide)) (fun _ => ?_)
            refine lv_aload_n hx hb dX9_kindTold_13 rfl (lv_at hl 2 rfl) ?_
            refine lv_aload_n hx hb dX9_kindTold_14 rfl (lv_at hl 2 rfl) ?_
            refine va_get (D := (dC, dI)) (ci := 7) (v := .ref i0) (C := RX9) (T := TX9) (N := 28) hx hb hts inX9 hown hK hP 0 rfl rfl 17 (by decide) (hts _ (List.mem_of_getElem? (i := 1) rfl)) (fun _ h9 => h9) rfl dX9_kindTold_15 ?_
            refine lv_iload_n hx hb dX9_kindTold_18 rfl (lv_at hl 0 rfl) ?_
            refine va_aldq hx hb hK hP 2 1 rfl rfl (vp_in_nI (n := 5) (by decide) (by decide)) dX9_kindTold_19 ?_
            refine pp_tv (y := .ref (ad 18)) (congrArg va_rf (hjf 5 (by decide))) ?_
            have hPc := hP.sub (ws' := [(h0, .inr (7, [v0, v1, v2, v3, v4, v5, v6, v7, v8, v9, .ref e0, .int ts, .int bg, .int en, .int so, .int va, v16, .ref i0, v18, v19, v20, v21, v22, v23, v24, v25, v26, v27])), (e0, .inl (ec, 120, .inl ef))]) [0, 1] rfl
            have hKc := hK.sub (tys' := [(ec, .int)]) [0] rfl
            refine vp_callSi (W.runV (As := [.ref (ad 18)]) (rest := []) ⟨hx, hb, hml, hown, hts⟩ (m_isWord l dC dI ad h0 18 v0 v1 v2 v3 v4 v5 v6 v7 v8 v9 e0 ts bg en so va v16 (.ref i0) v18 v19 v20 v21 v22 v23 v24 v25 v26 v27 ec ef (by decide) htm hlx) (cwV 1 hts g_m_kindTold_m_isWord_231 rfl rfl rfl (by decide +kernel) ⟨(Nat.le_of_ble_eq_true rfl), (Nat.le_of_ble_eq_true rfl)⟩) ⟨preST_blind, va_recv hKc hPc (ci := 7) (q0 := 0) rfl rfl, fun U hU hW => ⟨rfl, preS_at hU hW hPc hKc hev, sf_at hsf hS (fun _ h => h.elim) hU hW⟩⟩ rfl rfl hl.1 rfl (lv_room (Nat.le_of_ble_eq_true rfl)) dX9_kindTold_20 ⟨(Nat.le_of_ble_eq_true rfl), (Nat.le_of_ble_eq_true rfl)⟩) (fun r_125 hw => ?_)
            have hr_125 : r_125.toInt = 0 ∨ (r_125.toInt = 1 ∧ so.toInt = 1) := hw
            refine lv_if_eq (tgt := 30) hx hb dX9_kindTold_23 (by decide) (fun c_126 => ?_) (fun c_126 => ?_)
            · skip
              have tc_126 : r_125.toInt = 0 := (fa_eq _ _).mp c_126
              refine lv_iload_n hx hb dX9_kindTold_30 rfl (lv_at hl 1 rfl) ?_
              refine lv_istore_n (lv' := [(1, .int 4), (2, .int 5), (0, .ref h0)]) hx hb dX9_kindTold_31 rfl hl (by decide) rfl (fun ls hl => ?_)
              refine lv_iinc (v := 6) (lv' := [(2, .int 6), (1, .int 4), (0, .ref h0)]) hx hb dX9_kindTold_32 hl (k := 1) rfl (by decide) (by decide) rfl (fun ls hl => ?_)
              refine lv_goto (tgt := 4) hx hb dX9_kindTold_35 (by decide) ?_
              refine lv_iload_n hx hb dX9_kindTold_4 rfl (lv_at hl 0 rfl) ?_
              refine lv_aload_n hx hb dX9_kindTold_5 rfl (lv_at hl 2 rfl) ?_
              refine va_get (D := (dC, dI)) (ci := 7) (v := .ref i0) (C := RX9) (T := TX9) (N := 28) hx hb hts inX9 hown hK hP 0 rfl rfl 17 (by decide) (hts _ (List.mem_of_getElem? (i := 1) rfl)) (fun _ h9 => h9) rfl dX9_kindTold_6 ?_
              refine va_alen (v := 6) hx hb hK hP 2 1 rfl rfl rfl dX9_kindTold_9 ?_
              refine lv_icmp_ge (tgt := 38) hx hb dX9_kindTold_10 (by decide) (fun _ => ?_) (fun c => absurd (by decide) c)
              refine lv_iload_n hx hb dX9_kindTold_38 rfl (lv_at hl 1 rfl) ?_
              exact W.iret (v := (4 : Int32)) hx hb hr (fun t ht hW => ⟨(4 : Int32), rfl, (by first | omega | decide | (simp only [fa_lt, fa_le, fa_eq, and_true, true_and, and_false, false_and, not_true_eq_false, not_false_eq_true, li_0, li_1, li_2, li_3, li_4, li_5, li_6, li_7, li_8, li_9, li_10, li_12, li_15, li_16, li_20, li_30, li_34, li_38, li_40, li_63, li_64, li_65, li_78, li_120, li_1000, li_4000, li_10000, li_11077, li_255, li_65535, li_m1, li_m2, li_m1000000001, li_m1000000002, li_m1000000003, li_m1000000004, li_m1000000005, li_m1000000006, li_m1000000007, or_true, true_or, or_false, false_or, implies_true, true_implies, false_implies] <;> omega)), ht⟩) (fun _ h => absurd h List.not_mem_nil) dX9_kindTold_39
            · skip
              have tc_126 : ¬ r_125.toInt = 0 := fun h => c_126 ((fa_eq _ _).mpr h)
              refine lv_iload_n hx hb dX9_kindTold_26 rfl (lv_at hl 0 rfl) ?_
              refine lv_goto (tgt := 31) hx hb dX9_kindTold_27 (by decide) ?_
              refine lv_istore_n (lv' := [(1, .int 5), (2, .int 5), (0, .ref h0)]) hx hb dX9_kindTold_31 rfl hl (by decide) rfl (fun ls hl => ?_)
              refine lv_iinc (v := 6) (lv' := [(2, .int 6), (1, .int 5), (0, .ref h0)]) hx hb dX9_kindTold_32 hl (k := 1) rfl (by decide) (by decide) rfl (fun ls hl => ?_)
              refine lv_goto (tgt := 4) hx hb dX9_kindTold_35 (by decide) ?_
              refine lv_iload_n hx hb dX9_kindTold_4 rfl (lv_at hl 0 rfl) ?_
              refine lv_aload_n hx hb dX9_kindTold_5 rfl (lv_at hl 2 rfl) ?_
              refine va_get (D := (dC, dI)) (ci := 7) (v := .ref i0) (C := RX9) (T := TX9) (N := 28) hx hb hts inX9 hown hK hP 0 rfl rfl 17 (by decide) (hts _ (List.mem_of_getElem? (i := 1) rfl)) (fun _ h9 => h9) rfl dX9_kindTold_6 ?_
              refine va_alen (v := 6) hx hb hK hP 2 1 rfl rfl rfl dX9_kindTold_9 ?_
              refine lv_icmp_ge (tgt := 38) hx hb dX9_kindTold_10 (by decide) (fun _ => ?_) (fun c => absurd (by decide) c)
              refine lv_iload_n hx hb dX9_kindTold_38 rfl (lv_at hl 1 rfl) ?_
              exact W.iret (v := (5 : Int32)) hx hb hr (fun t ht hW => ⟨(5 : Int32), rfl, (by first | omega | decide | (simp only [fa_lt, fa_le, fa_eq, and_true, true_and, and_false, false_and, not_true_eq_false, not_false_eq_true, li_0, li_1, li_2, li_3, li_4, li_5, li_6, li_7, li_8, li_9, li_10, li_12, li_15, li_16, li_20, li_30, li_34, li_38, li_40, li_63, li_64, li_65, li_78, li_120, li_1000, li_4000, li_10000, li_11077, li_255, li_65535, li_m1, li_m2, li_m1000000001, li_m1000000002, li_m1000000003, li_m1000000004, li_m1000000005, li_m1000000006, li_m1000000007, or_true, true_or, or_false, false_or, implies_true, true_implies, false_implies] <;> omega)), ht⟩) (fun _ h => absurd h List.not_mem_nil) dX9_kindTold_39

