theorem dX8_loop_113 : decode cX8_loop 113 = .ok (.istore_n 3, 1) := by decide +kernel
theorem dX8_loop_114 : decode cX8_loop 114 = .ok (.iconst 0, 1) := by decide +kernel
theorem dX8_loop_115 : decode cX8_loop 115 = .ok (.istore 4, 2) := by decide +kernel
theorem dX8_loop_117 : decode cX8_loop 117 = .ok (.iconst 1, 1) := by decide +kernel
theorem dX8_loop_118 : decode cX8_loop 118 = .ok (.istore 5, 2) := by decide +kernel
theorem dX8_loop_120 : decode cX8_loop 120 = .ok (.iconst 1, 1) := by decide +kernel
theorem dX8_loop_121 : decode cX8_loop 121 = .ok (.istore 6, 2) := by decide +kernel
theorem dX8_loop_123 : decode cX8_loop 123 = .ok (.iload 6, 2) := by decide +kernel
theorem dX8_loop_125 : decode cX8_loop 125 = .ok (.sipush 300, 3) := by decide +kernel
theorem dX8_loop_128 : decode cX8_loop 128 = .ok (.if_icmp .gt 50, 3) := by decide +kernel
theorem dX8_loop_131 : decode cX8_loop 131 = .ok (.iload 5, 2) := by decide +kernel
theorem dX8_loop_133 : decode cX8_loop 133 = .ok (.ifCond .eq 45, 3) := by decide +kernel
theorem dX8_loop_136 : decode cX8_loop 136 = .ok (.aload_n 0, 1) := by decide +kernel
theorem dX8_loop_137 : decode cX8_loop 137 = .ok (.invokevirtual 175, 3) := by decide +kernel
theorem dX8_loop_140 : decode cX8_loop 140 = .ok (.ifCond .lt 7, 3) := by decide +kernel
theorem dX8_loop_143 : decode cX8_loop 143 = .ok (.iconst 1, 1) := by decide +kernel
theorem dX8_loop_144 : decode cX8_loop 144 = .ok (.goto 4, 3) := by decide +kernel
theorem dX8_loop_147 : decode cX8_loop 147 = .ok (.iconst 0, 1) := by decide +kernel
theorem dX8_loop_148 : decode cX8_loop 148 = .ok (.istore 5, 2) := by decide +kernel
theorem dX8_loop_150 : decode cX8_loop 150 = .ok (.iload 5, 2) := by decide +kernel
theorem dX8_loop_152 : decode cX8_loop 152 = .ok (.ifCond .eq 20, 3) := by decide +kernel
theorem dX8_loop_155 : decode cX8_loop 155 = .ok (.aload_n 0, 1) := by decide +kernel
theorem dX8_loop_156 : decode cX8_loop 156 = .ok (.invokevirtual 184, 3) := by decide +kernel
theorem dX8_loop_159 : decode cX8_loop 159 = .ok (.ifCond .ne 6, 3) := by decide +kernel
theorem dX8_loop_162 : decode cX8_loop 162 = .ok (.goto 10, 3) := by decide +kernel
theorem dX8_loop_165 : decode cX8_loop 165 = .ok (.iload 6, 2) := by decide +kernel
theorem dX8_loop_167 : decode cX8_loop 167 = .ok (.istore 4, 2) := by decide +kernel
theorem dX8_loop_169 : decode cX8_loop 169 = .ok (.iconst 0, 1) := by decide +kernel
theorem dX8_loop_170 : decode cX8_loop 170 = .ok (.istore 5, 2) := by decide +kernel
theorem dX8_loop_172 : decode cX8_loop 172 = .ok (.iinc 6 1, 3) := by decide +kernel
theorem dX8_loop_175 : decode cX8_loop 175 = .ok (.goto (-52), 3) := by decide +kernel
theorem dX8_loop_178 : decode cX8_loop 178 = .ok (.iconst 0, 1) := by decide +kernel
theorem dX8_loop_179 : decode cX8_loop 179 = .ok (.istore 6, 2) := by decide +kernel
theorem dX8_loop_181 : decode cX8_loop 181 = .ok (.iload 6, 2) := by decide +kernel
theorem dX8_loop_183 : decode cX8_loop 183 = .ok (.aload_n 0, 1) := by decide +kernel
theorem dX8_loop_184 : decode cX8_loop 184 = .ok (.getfield 94, 3) := by decide +kernel
theorem dX8_loop_187 : decode cX8_loop 187 = .ok (.if_icmp .ge 65, 3) := by decide +kernel
theorem dX8_loop_190 : decode cX8_loop 190 = .ok (.aload_n 0, 1) := by decide +kernel
theorem dX8_loop_191 : decode cX8_loop 191 = .ok (.getfield 19, 3) := by decide +kernel
theorem dX8_loop_194 : decode cX8_loop 194 = .ok (.iload 6, 2) := by decide +kernel
theorem dX8_loop_196 : decode cX8_loop 196 = .ok (.aload_n 0, 1) := by decide +kernel
theorem dX8_loop_197 : decode cX8_loop 197 = .ok (.getfield 35, 3) := by decide +kernel
theorem dX8_loop_200 : decode cX8_loop 200 = .ok (.iload 6, 2) := by decide +kernel
theorem dX8_loop_202 : decode cX8_loop 202 = .ok (.laload, 1) := by decide +kernel
theorem dX8_loop_203 : decode cX8_loop 203 = .ok (.lastore, 1) := by decide +kernel
theorem dX8_loop_204 : decode cX8_loop 204 = .ok (.aload_n 0, 1) := by decide +kernel
theorem dX8_loop_205 : decode cX8_loop 205 = .ok (.getfield 23, 3) := by decide +kernel
theorem dX8_loop_208 : decode cX8_loop 208 = .ok (.iload 6, 2) := by decide +kernel
theorem dX8_loop_210 : decode cX8_loop 210 = .ok (.aload_n 0, 1) := by decide +kernel
theorem dX8_loop_211 : decode cX8_loop 211 = .ok (.getfield 38, 3) := by decide +kernel
theorem dX8_loop_214 : decode cX8_loop 214 = .ok (.iload 6, 2) := by decide +kernel
theorem dX8_loop_216 : decode cX8_loop 216 = .ok (.laload, 1) := by decide +kernel
theorem dX8_loop_217 : decode cX8_loop 217 = .ok (.lastore, 1) := by decide +kernel
theorem dX8_loop_218 : decode cX8_loop 218 = .ok (.aload_n 0, 1) := by decide +kernel
theorem dX8_loop_219 : decode cX8_loop 219 = .ok (.getfield 26, 3) := by decide +kernel
theorem dX8_loop_222 : decode cX8_loop 222 = .ok (.iload 6, 2) := by decide +kernel
theorem dX8_loop_224 : decode cX8_loop 224 = .ok (.aload_n 0, 1) := by decide +kernel
theorem dX8_loop_225 : decode cX8_loop 225 = .ok (.getfield 41, 3) := by decide +kernel
theorem dX8_loop_228 : decode cX8_loop 228 = .ok (.iload 6, 2) := by decide +kernel
theorem dX8_loop_230 : decode cX8_loop 230 = .ok (.iaload, 1) := by decide +kernel
theorem dX8_loop_231 : decode cX8_loop 231 = .ok (.iastore, 1) := by decide +kernel
theorem dX8_loop_232 : decode cX8_loop 232 = .ok (.aload_n 0, 1) := by decide +kernel
theorem dX8_loop_233 : decode cX8_loop 233 = .ok (.getfield 29, 3) := by decide +kernel
theorem dX8_loop_236 : decode cX8_loop 236 = .ok (.iload 6, 2) := by decide +kernel
theorem dX8_loop_238 : decode cX8_loop 238 = .ok (.aload_n 0, 1) := by decide +kernel
theorem dX8_loop_239 : decode cX8_loop 239 = .ok (.getfield 44, 3) := by decide +kernel
theorem dX8_loop_242 : decode cX8_loop 242 = .ok (.iload 6, 2) := by decide +kernel
theorem dX8_loop_244 : decode cX8_loop 244 = .ok (.iaload, 1) := by decide +kernel
theorem dX8_loop_245 : decode cX8_loop 245 = .ok (.iastore, 1) := by decide +kernel
theorem dX8_loop_246 : decode cX8_loop 246 = .ok (.iinc 6 1, 3) := by decide +kernel
theorem dX8_loop_249 : decode cX8_loop 249 = .ok (.goto (-68), 3) := by decide +kernel
theorem dX8_loop_252 : decode cX8_loop 252 = .ok (.iconst 0, 1) := by decide +kernel
theorem dX8_loop_253 : decode cX8_loop 253 = .ok (.istore 6, 2) := by decide +kernel
theorem dX8_loop_255 : decode cX8_loop 255 = .ok (.iload 6, 2) := by decide +kernel
theorem dX8_loop_257 : decode cX8_loop 257 = .ok (.bipush 64, 2) := by decide +kernel
theorem dX8_loop_259 : decode cX8_loop 259 = .ok (.if_icmp .ge 23, 3) := by decide +kernel
theorem dX8_loop_262 : decode cX8_loop 262 = .ok (.aload_n 0, 1) := by decide +kernel
theorem dX8_loop_263 : decode cX8_loop 263 = .ok (.getfield 32, 3) := by decide +kernel
theorem dX8_loop_266 : decode cX8_loop 266 = .ok (.iload 6, 2) := by decide +kernel
theorem dX8_loop_268 : decode cX8_loop 268 = .ok (.aload_n 0, 1) := by decide +kernel
theorem dX8_loop_269 : decode cX8_loop 269 = .ok (.getfield 47, 3) := by decide +kernel
theorem dX8_loop_272 : decode cX8_loop 272 = .ok (.iload 6, 2) := by decide +kernel
theorem dX8_loop_274 : decode cX8_loop 274 = .ok (.laload, 1) := by decide +kernel
theorem dX8_loop_275 : decode cX8_loop 275 = .ok (.lastore, 1) := by decide +kernel
theorem dX8_loop_276 : decode cX8_loop 276 = .ok (.iinc 6 1, 3) := by decide +kernel
theorem dX8_loop_279 : decode cX8_loop 279 = .ok (.goto (-24), 3) := by decide +kernel
theorem dX8_loop_282 : decode cX8_loop 282 = .ok (.aload_n 0, 1) := by decide +kernel
theorem dX8_loop_283 : decode cX8_loop 283 = .ok (.iload_n 1, 1) := by decide +kernel
theorem dX8_loop_284 : decode cX8_loop 284 = .ok (.putfield 101, 3) := by decide +kernel
theorem dX8_loop_287 : decode cX8_loop 287 = .ok (.aload_n 0, 1) := by decide +kernel
theorem dX8_loop_288 : decode cX8_loop 288 = .ok (.iload_n 2, 1) := by decide +kernel
theorem dX8_loop_289 : decode cX8_loop 289 = .ok (.putfield 104, 3) := by decide +kernel
theorem dX8_loop_292 : decode cX8_loop 292 = .ok (.aload_n 0, 1) := by decide +kernel
theorem dX8_loop_293 : decode cX8_loop 293 = .ok (.iload_n 3, 1) := by decide +kernel
theorem dX8_loop_294 : decode cX8_loop 294 = .ok (.putfield 97, 3) := by decide +kernel
theorem dX8_loop_297 : decode cX8_loop 297 = .ok (.iload 4, 2) := by decide +kernel
theorem dX8_loop_299 : decode cX8_loop 299 = .ok (.ireturn, 1) := by decide +kernel
theorem dX8_pieces_0 : decode cX8_pieces 0 = .ok (.aload_n 0, 1) := by decide +kernel
theorem dX8_pieces_1 : decode cX8_pieces 1 = .ok (.iconst 0, 1) := by decide +kernel
theorem dX8_pieces_2 : decode cX8_pieces 2 = .ok (.invokevirtual 124, 3) := by decide +kernel
theorem dX8_pieces_5 : decode cX8_pieces 5 = .ok (.l2i, 1) := by decide +kernel
theorem dX8_pieces_6 : decode cX8_pieces 6 = .ok (.istore_n 1, 1) := by decide +kernel
theorem dX8_pieces_7 : decode cX8_pieces 7 = .ok (.iconst 0, 1) := by decide +kernel
theorem dX8_pieces_8 : decode cX8_pieces 8 = .ok (.istore_n 2, 1) := by decide +kernel
theorem dX8_pieces_9 : decode cX8_pieces 9 = .ok (.iload_n 2, 1) := by decide +kernel
theorem dX8_pieces_10 : decode cX8_pieces 10 = .ok (.iload_n 1, 1) := by decide +kernel
theorem dX8_pieces_11 : decode cX8_pieces 11 = .ok (.if_icmp .ge 45, 3) := by decide +kernel
theorem dX8_pieces_14 : decode cX8_pieces 14 = .ok (.aload_n 0, 1) := by decide +kernel
theorem dX8_pieces_15 : decode cX8_pieces 15 = .ok (.getfield 62, 3) := by decide +kernel
theorem dX8_pieces_18 : decode cX8_pieces 18 = .ok (.iload_n 2, 1) := by decide +kernel
theorem dX8_pieces_19 : decode cX8_pieces 19 = .ok (.aload_n 0, 1) := by decide +kernel
theorem dX8_pieces_20 : decode cX8_pieces 20 = .ok (.aload_n 0, 1) := by decide +kernel
theorem dX8_pieces_21 : decode cX8_pieces 21 = .ok (.getfield 26, 3) := by decide +kernel
theorem dX8_pieces_24 : decode cX8_pieces 24 = .ok (.iload_n 2, 1) := by decide +kernel
theorem dX8_pieces_25 : decode cX8_pieces 25 = .ok (.i2l, 1) := by decide +kernel
theorem dX8_pieces_26 : decode cX8_pieces 26 = .ok (.lconst 0, 1) := by decide +kernel
theorem dX8_pieces_27 : decode cX8_pieces 27 = .ok (.invokevirtual 135, 3) := by decide +kernel
theorem dX8_pieces_30 : decode cX8_pieces 30 = .ok (.iastore, 1) := by decide +kernel
theorem dX8_pieces_31 : decode cX8_pieces 31 = .ok (.aload_n 0, 1) := by decide +kernel
theorem dX8_pieces_32 : decode cX8_pieces 32 = .ok (.iload_n 2, 1) := by decide +kernel
theorem dX8_pieces_33 : decode cX8_pieces 33 = .ok (.i2l, 1) := by decide +kernel
theorem dX8_pieces_34 : decode cX8_pieces 34 = .ok (.lconst 0, 1) := by decide +kernel
theorem dX8_pieces_35 : decode cX8_pieces 35 = .ok (.iconst 0, 1) := by decide +kernel
theorem dX8_pieces_36 : decode cX8_pieces 36 = .ok (.invokevirtual 163, 3) := by decide +kernel
theorem dX8_pieces_39 : decode cX8_pieces 39 = .ok (.aload_n 0, 1) := by decide +kernel
theorem dX8_pieces_40 : decode cX8_pieces 40 = .ok (.getfield 59, 3) := by decide +kernel
theorem dX8_pieces_43 : decode cX8_pieces 43 = .ok (.iload_n 2, 1) := by decide +kernel
theorem dX8_pieces_44 : decode cX8_pieces 44 = .ok (.aload_n 0, 1) := by decide +kernel
theorem dX8_pieces_45 : decode cX8_pieces 45 = .ok (.getfield 139, 3) := by decide +kernel
theorem dX8_pieces_48 : decode cX8_pieces 48 = .ok (.l2i, 1) := by decide +kernel
theorem dX8_pieces_49 : decode cX8_pieces 49 = .ok (.iastore, 1) := by decide +kernel
theorem dX8_pieces_50 : decode cX8_pieces 50 = .ok (.iinc 2 1, 3) := by decide +kernel
theorem dX8_pieces_53 : decode cX8_pieces 53 = .ok (.goto (-44), 3) := by decide +kernel
theorem dX8_pieces_56 : decode cX8_pieces 56 = .ok (.iload_n 1, 1) := by decide +kernel
theorem dX8_pieces_57 : decode cX8_pieces 57 = .ok (.ireturn, 1) := by decide +kernel
theorem dX8_isJoined_0 : decode cX8_isJoined 0 = .ok (.iload_n 1, 1) := by decide +kernel
theorem dX8_isJoined_1 : decode cX8_isJoined 1 = .ok (.istore_n 3, 1) := by decide +kernel
theorem dX8_isJoined_2 : decode cX8_isJoined 2 = .ok (.iconst 1, 1) := by decide +kernel
theorem dX8_isJoined_3 : decode cX8_isJoined 3 = .ok (.istore 4, 2) := by decide +kernel
theorem dX8_isJoined_5 : decode cX8_isJoined 5 = .ok (.iload 4, 2) := by decide +kernel
theorem dX8_isJoined_7 : decode cX8_isJoined 7 = .ok (.ifCond .ne 8, 3) := by decide +kernel
theorem dX8_isJoined_10 : decode cX8_isJoined 10 = .ok (.iload_n 3, 1) := by decide +kernel
theorem dX8_isJoined_11 : decode cX8_isJoined 11 = .ok (.iload_n 1, 1) := by decide +kernel
theorem dX8_isJoined_12 : decode cX8_isJoined 12 = .ok (.if_icmp .eq 42, 3) := by decide +kernel
theorem dX8_isJoined_15 : decode cX8_isJoined 15 = .ok (.iconst 0, 1) := by decide +kernel
theorem dX8_isJoined_16 : decode cX8_isJoined 16 = .ok (.istore 4, 2) := by decide +kernel
theorem dX8_isJoined_18 : decode cX8_isJoined 18 = .ok (.iload_n 3, 1) := by decide +kernel
theorem dX8_isJoined_19 : decode cX8_isJoined 19 = .ok (.iconst 1, 1) := by decide +kernel
theorem dX8_isJoined_20 : decode cX8_isJoined 20 = .ok (.iadd, 1) := by decide +kernel
theorem dX8_isJoined_21 : decode cX8_isJoined 21 = .ok (.iload_n 2, 1) := by decide +kernel
theorem dX8_isJoined_22 : decode cX8_isJoined 22 = .ok (.if_icmp .ge 20, 3) := by decide +kernel
theorem dX8_isJoined_25 : decode cX8_isJoined 25 = .ok (.aload_n 0, 1) := by decide +kernel
theorem dX8_isJoined_26 : decode cX8_isJoined 26 = .ok (.getfield 62, 3) := by decide +kernel
theorem dX8_isJoined_29 : decode cX8_isJoined 29 = .ok (.iload_n 3, 1) := by decide +kernel
theorem dX8_isJoined_30 : decode cX8_isJoined 30 = .ok (.iaload, 1) := by decide +kernel
theorem dX8_isJoined_31 : decode cX8_isJoined 31 = .ok (.aload_n 0, 1) := by decide +kernel
theorem dX8_isJoined_32 : decode cX8_isJoined 32 = .ok (.getfield 62, 3) := by decide +kernel
theorem dX8_isJoined_35 : decode cX8_isJoined 35 = .ok (.iload_n 3, 1) := by decide +kernel
theorem dX8_isJoined_36 : decode cX8_isJoined 36 = .ok (.iconst 1, 1) := by decide +kernel
theorem dX8_isJoined_37 : decode cX8_isJoined 37 = .ok (.iadd, 1) := by decide +kernel
theorem dX8_isJoined_38 : decode cX8_isJoined 38 = .ok (.iaload, 1) := by decide +kernel
theorem dX8_isJoined_39 : decode cX8_isJoined 39 = .ok (.if_icmp .eq 5, 3) := by decide +kernel
theorem dX8_isJoined_42 : decode cX8_isJoined 42 = .ok (.iconst 0, 1) := by decide +kernel
theorem dX8_isJoined_43 : decode cX8_isJoined 43 = .ok (.ireturn, 1) := by decide +kernel
theorem dX8_isJoined_44 : decode cX8_isJoined 44 = .ok (.aload_n 0, 1) := by decide +kernel
theorem dX8_isJoined_45 : decode cX8_isJoined 45 = .ok (.getfield 59, 3) := by decide +kernel
theorem dX8_isJoined_48 : decode cX8_isJoined 48 = .ok (.iload_n 3, 1) := by decide +kernel
theorem dX8_isJoined_49 : decode cX8_isJoined 49 = .ok (.iaload, 1) := by decide +kernel
theorem dX8_isJoined_50 : decode cX8_isJoined 50 = .ok (.istore_n 3, 1) := by decide +kernel
theorem dX8_isJoined_51 : decode cX8_isJoined 51 = .ok (.goto (-46), 3) := by decide +kernel
theorem dX8_isJoined_54 : decode cX8_isJoined 54 = .ok (.iconst 1, 1) := by decide +kernel
theorem dX8_isJoined_55 : decode cX8_isJoined 55 = .ok (.ireturn, 1) := by decide +kernel
theorem dX8_rounds_0 : decode cX8_rounds 0 = .ok (.aload_n 0, 1) := by decide +kernel
theorem dX8_rounds_1 : decode cX8_rounds 1 = .ok (.getfield 94, 3) := by decide +kernel
theorem dX8_rounds_4 : decode cX8_rounds 4 = .ok (.ifCond .ne 5, 3) := by decide +kernel
theorem dX8_rounds_7 : decode cX8_rounds 7 = .ok (.iconst (-1), 1) := by decide +kernel
theorem dX8_rounds_8 : decode cX8_rounds 8 = .ok (.ireturn, 1) := by decide +kernel
theorem dX8_rounds_9 : decode cX8_rounds 9 = .ok (.aload_n 0, 1) := by decide +kernel
theorem dX8_rounds_10 : decode cX8_rounds 10 = .ok (.getfield 87, 3) := by decide +kernel
theorem dX8_rounds_13 : decode cX8_rounds 13 = .ok (.ifCond .ne 15, 3) := by decide +kernel
theorem dX8_rounds_16 : decode cX8_rounds 16 = .ok (.aload_n 0, 1) := by decide +kernel
theorem dX8_rounds_17 : decode cX8_rounds 17 = .ok (.iconst 0, 1) := by decide +kernel
theorem dX8_rounds_18 : decode cX8_rounds 18 = .ok (.invokevirtual 124, 3) := by decide +kernel
theorem dX8_rounds_21 : decode cX8_rounds 21 = .ok (.ldc2_w 188, 3) := by decide +kernel
theorem dX8_rounds_24 : decode cX8_rounds 24 = .ok (.lcmp, 1) := by decide +kernel
theorem dX8_rounds_25 : decode cX8_rounds 25 = .ok (.ifCond .le 6, 3) := by decide +kernel
theorem dX8_rounds_28 : decode cX8_rounds 28 = .ok (.bipush (-2), 2) := by decide +kernel
theorem dX8_rounds_30 : decode cX8_rounds 30 = .ok (.ireturn, 1) := by decide +kernel
theorem dX8_rounds_31 : decode cX8_rounds 31 = .ok (.aload_n 0, 1) := by decide +kernel
theorem dX8_rounds_32 : decode cX8_rounds 32 = .ok (.invokevirtual 190, 3) := by decide +kernel
theorem dX8_rounds_35 : decode cX8_rounds 35 = .ok (.istore_n 1, 1) := by decide +kernel
theorem dX8_rounds_36 : decode cX8_rounds 36 = .ok (.iconst 0, 1) := by decide +kernel
theorem dX8_rounds_37 : decode cX8_rounds 37 = .ok (.istore_n 2, 1) := by decide +kernel
theorem dX8_rounds_38 : decode cX8_rounds 38 = .ok (.iload_n 2, 1) := by decide +kernel
theorem dX8_rounds_39 : decode cX8_rounds 39 = .ok (.iload_n 1, 1) := by decide +kernel
theorem dX8_rounds_40 : decode cX8_rounds 40 = .ok (.if_icmp .ge 16, 3) := by decide +kernel
theorem dX8_rounds_43 : decode cX8_rounds 43 = .ok (.aload_n 0, 1) := by decide +kernel
theorem dX8_rounds_44 : decode cX8_rounds 44 = .ok (.getfield 65, 3) := by decide +kernel
theorem dX8_rounds_47 : decode cX8_rounds 47 = .ok (.iload_n 2, 1) := by decide +kernel
theorem dX8_rounds_48 : decode cX8_rounds 48 = .ok (.iconst 0, 1) := by decide +kernel
theorem dX8_rounds_49 : decode cX8_rounds 49 = .ok (.bastore, 1) := by decide +kernel
theorem dX8_rounds_50 : decode cX8_rounds 50 = .ok (.iinc 2 1, 3) := by decide +kernel
theorem dX8_rounds_53 : decode cX8_rounds 53 = .ok (.goto (-15), 3) := by decide +kernel
theorem dX8_rounds_56 : decode cX8_rounds 56 = .ok (.aload_n 0, 1) := by decide +kernel
theorem dX8_rounds_57 : decode cX8_rounds 57 = .ok (.iconst 0, 1) := by decide +kernel
theorem dX8_rounds_58 : decode cX8_rounds 58 = .ok (.putfield 193, 3) := by decide +kernel
theorem dX8_rounds_61 : decode cX8_rounds 61 = .ok (.iconst 0, 1) := by decide +kernel
theorem dX8_rounds_62 : decode cX8_rounds 62 = .ok (.istore_n 2, 1) := by decide +kernel
theorem dX8_rounds_63 : decode cX8_rounds 63 = .ok (.iload_n 2, 1) := by decide +kernel
theorem dX8_rounds_64 : decode cX8_rounds 64 = .ok (.iload_n 1, 1) := by decide +kernel
theorem dX8_rounds_65 : decode cX8_rounds 65 = .ok (.if_icmp .ge 170, 3) := by decide +kernel
theorem dX8_rounds_68 : decode cX8_rounds 68 = .ok (.aload_n 0, 1) := by decide +kernel
theorem dX8_rounds_69 : decode cX8_rounds 69 = .ok (.getfield 65, 3) := by decide +kernel
theorem dX8_rounds_72 : decode cX8_rounds 72 = .ok (.iload_n 2, 1) := by decide +kernel
theorem dX8_rounds_73 : decode cX8_rounds 73 = .ok (.baload, 1) := by decide +kernel
theorem dX8_rounds_74 : decode cX8_rounds 74 = .ok (.ifCond .eq 6, 3) := by decide +kernel
theorem dX8_rounds_77 : decode cX8_rounds 77 = .ok (.goto 152, 3) := by decide +kernel
theorem dX8_rounds_80 : decode cX8_rounds 80 = .ok (.iload_n 2, 1) := by decide +kernel
theorem dX8_rounds_81 : decode cX8_rounds 81 = .ok (.istore_n 3, 1) := by decide +kernel
theorem dX8_rounds_82 : decode cX8_rounds 82 = .ok (.iload_n 3, 1) := by decide +kernel
theorem dX8_rounds_83 : decode cX8_rounds 83 = .ok (.ifCond .le 20, 3) := by decide +kernel
theorem dX8_rounds_86 : decode cX8_rounds 86 = .ok (.aload_n 0, 1) := by decide +kernel
theorem dX8_rounds_87 : decode cX8_rounds 87 = .ok (.iload_n 3, 1) := by decide +kernel
theorem dX8_rounds_88 : decode cX8_rounds 88 = .ok (.iconst 1, 1) := by decide +kernel
theorem dX8_rounds_89 : decode cX8_rounds 89 = .ok (.isub, 1) := by decide +kernel
theorem dX8_rounds_90 : decode cX8_rounds 90 = .ok (.iload_n 1, 1) := by decide +kernel
theorem dX8_rounds_91 : decode cX8_rounds 91 = .ok (.invokevirtual 196, 3) := by decide +kernel
theorem dX8_rounds_94 : decode cX8_rounds 94 = .ok (.ifCond .eq 9, 3) := by decide +kernel
theorem dX8_rounds_97 : decode cX8_rounds 97 = .ok (.iinc 3 (-1), 3) := by decide +kernel
theorem dX8_rounds_100 : decode cX8_rounds 100 = .ok (.goto (-18), 3) := by decide +kernel
theorem dX8_rounds_103 : decode cX8_rounds 103 = .ok (.iload_n 3, 1) := by decide +kernel
theorem dX8_rounds_104 : decode cX8_rounds 104 = .ok (.istore 4, 2) := by decide +kernel
theorem dX8_rounds_106 : decode cX8_rounds 106 = .ok (.aload_n 0, 1) := by decide +kernel
theorem dX8_rounds_107 : decode cX8_rounds 107 = .ok (.iload 4, 2) := by decide +kernel
theorem dX8_rounds_109 : decode cX8_rounds 109 = .ok (.iload_n 1, 1) := by decide +kernel
theorem dX8_rounds_110 : decode cX8_rounds 110 = .ok (.invokevirtual 196, 3) := by decide +kernel
theorem dX8_rounds_113 : decode cX8_rounds 113 = .ok (.ifCond .eq 9, 3) := by decide +kernel
theorem dX8_rounds_116 : decode cX8_rounds 116 = .ok (.iinc 4 1, 3) := by decide +kernel
theorem dX8_rounds_119 : decode cX8_rounds 119 = .ok (.goto (-13), 3) := by decide +kernel
theorem dX8_rounds_122 : decode cX8_rounds 122 = .ok (.iconst 0, 1) := by decide +kernel
theorem dX8_rounds_123 : decode cX8_rounds 123 = .ok (.istore 5, 2) := by decide +kernel
theorem dX8_rounds_125 : decode cX8_rounds 125 = .ok (.iload_n 3, 1) := by decide +kernel
theorem dX8_rounds_126 : decode cX8_rounds 126 = .ok (.istore 6, 2) := by decide +kernel
theorem dX8_rounds_128 : decode cX8_rounds 128 = .ok (.iload 6, 2) := by decide +kernel
theorem dX8_rounds_130 : decode cX8_rounds 130 = .ok (.iload 4, 2) := by decide +kernel
theorem dX8_rounds_132 : decode cX8_rounds 132 = .ok (.if_icmp .gt 51, 3) := by decide +kernel
theorem dX8_rounds_135 : decode cX8_rounds 135 = .ok (.iload 6, 2) := by decide +kernel
theorem dX8_rounds_137 : decode cX8_rounds 137 = .ok (.istore 7, 2) := by decide +kernel
theorem dX8_rounds_139 : decode cX8_rounds 139 = .ok (.iconst 0, 1) := by decide +kernel
theorem dX8_rounds_140 : decode cX8_rounds 140 = .ok (.istore 5, 2) := by decide +kernel
theorem dX8_rounds_142 : decode cX8_rounds 142 = .ok (.iload 5, 2) := by decide +kernel
theorem dX8_rounds_144 : decode cX8_rounds 144 = .ok (.ifCond .eq 10, 3) := by decide +kernel
theorem dX8_rounds_147 : decode cX8_rounds 147 = .ok (.iload 7, 2) := by decide +kernel
theorem dX8_rounds_149 : decode cX8_rounds 149 = .ok (.iload 6, 2) := by decide +kernel
theorem dX8_rounds_151 : decode cX8_rounds 151 = .ok (.if_icmp .eq 26, 3) := by decide +kernel
theorem dX8_rounds_154 : decode cX8_rounds 154 = .ok (.aload_n 0, 1) := by decide +kernel
theorem dX8_rounds_155 : decode cX8_rounds 155 = .ok (.getfield 65, 3) := by decide +kernel
theorem dX8_rounds_158 : decode cX8_rounds 158 = .ok (.iload 7, 2) := by decide +kernel
theorem dX8_rounds_160 : decode cX8_rounds 160 = .ok (.iconst 1, 1) := by decide +kernel
theorem dX8_rounds_161 : decode cX8_rounds 161 = .ok (.bastore, 1) := by decide +kernel
theorem dX8_rounds_162 : decode cX8_rounds 162 = .ok (.aload_n 0, 1) := by decide +kernel
theorem dX8_rounds_163 : decode cX8_rounds 163 = .ok (.getfield 59, 3) := by decide +kernel
theorem dX8_rounds_166 : decode cX8_rounds 166 = .ok (.iload 7, 2) := by decide +kernel
theorem dX8_rounds_168 : decode cX8_rounds 168 = .ok (.iaload, 1) := by decide +kernel
theorem dX8_rounds_169 : decode cX8_rounds 169 = .ok (.istore 7, 2) := by decide +kernel
theorem dX8_rounds_171 : decode cX8_rounds 171 = .ok (.iinc 5 1, 3) := by decide +kernel
theorem dX8_rounds_174 : decode cX8_rounds 174 = .ok (.goto (-32), 3) := by decide +kernel
theorem dX8_rounds_177 : decode cX8_rounds 177 = .ok (.iinc 6 1, 3) := by decide +kernel
theorem dX8_rounds_180 : decode cX8_rounds 180 = .ok (.goto (-52), 3) := by decide +kernel
theorem dX8_rounds_183 : decode cX8_rounds 183 = .ok (.aload_n 0, 1) := by decide +kernel
theorem dX8_rounds_184 : decode cX8_rounds 184 = .ok (.getfield 50, 3) := by decide +kernel
theorem dX8_rounds_187 : decode cX8_rounds 187 = .ok (.aload_n 0, 1) := by decide +kernel
theorem dX8_rounds_188 : decode cX8_rounds 188 = .ok (.getfield 193, 3) := by decide +kernel
theorem dX8_rounds_191 : decode cX8_rounds 191 = .ok (.iload 4, 2) := by decide +kernel
theorem dX8_rounds_193 : decode cX8_rounds 193 = .ok (.iload_n 3, 1) := by decide +kernel
theorem dX8_rounds_194 : decode cX8_rounds 194 = .ok (.isub, 1) := by decide +kernel
theorem dX8_rounds_195 : decode cX8_rounds 195 = .ok (.iconst 1, 1) := by decide +kernel
theorem dX8_rounds_196 : decode cX8_rounds 196 = .ok (.iadd, 1) := by decide +kernel
theorem dX8_rounds_197 : decode cX8_rounds 197 = .ok (.iastore, 1) := by decide +kernel
theorem dX8_rounds_198 : decode cX8_rounds 198 = .ok (.aload_n 0, 1) := by decide +kernel
theorem dX8_rounds_199 : decode cX8_rounds 199 = .ok (.getfield 53, 3) := by decide +kernel
theorem dX8_rounds_202 : decode cX8_rounds 202 = .ok (.aload_n 0, 1) := by decide +kernel
theorem dX8_rounds_203 : decode cX8_rounds 203 = .ok (.getfield 193, 3) := by decide +kernel
theorem dX8_rounds_206 : decode cX8_rounds 206 = .ok (.iload 5, 2) := by decide +kernel
theorem dX8_rounds_208 : decode cX8_rounds 208 = .ok (.iastore, 1) := by decide +kernel
theorem dX8_rounds_209 : decode cX8_rounds 209 = .ok (.aload_n 0, 1) := by decide +kernel
theorem dX8_rounds_210 : decode cX8_rounds 210 = .ok (.getfield 56, 3) := by decide +kernel
theorem dX8_rounds_213 : decode cX8_rounds 213 = .ok (.aload_n 0, 1) := by decide +kernel
theorem dX8_rounds_214 : decode cX8_rounds 214 = .ok (.getfield 193, 3) := by decide +kernel
theorem dX8_rounds_217 : decode cX8_rounds 217 = .ok (.iload_n 2, 1) := by decide +kernel
theorem dX8_rounds_218 : decode cX8_rounds 218 = .ok (.iastore, 1) := by decide +kernel
theorem dX8_rounds_219 : decode cX8_rounds 219 = .ok (.aload_n 0, 1) := by decide +kernel
theorem dX8_rounds_220 : decode cX8_rounds 220 = .ok (.dup, 1) := by decide +kernel
theorem dX8_rounds_221 : decode cX8_rounds 221 = .ok (.getfield 193, 3) := by decide +kernel
theorem dX8_rounds_224 : decode cX8_rounds 224 = .ok (.iconst 1, 1) := by decide +kernel
theorem dX8_rounds_225 : decode cX8_rounds 225 = .ok (.iadd, 1) := by decide +kernel
theorem dX8_rounds_226 : decode cX8_rounds 226 = .ok (.putfield 193, 3) := by decide +kernel
theorem dX8_rounds_229 : decode cX8_rounds 229 = .ok (.iinc 2 1, 3) := by decide +kernel
theorem dX8_rounds_232 : decode cX8_rounds 232 = .ok (.goto (-169), 3) := by decide +kernel
theorem dX8_rounds_235 : decode cX8_rounds 235 = .ok (.aload_n 0, 1) := by decide +kernel
theorem dX8_rounds_236 : decode cX8_rounds 236 = .ok (.getfield 193, 3) := by decide +kernel
theorem dX8_rounds_239 : decode cX8_rounds 239 = .ok (.ireturn, 1) := by decide +kernel
theorem dX8_round_0 : decode cX8_round 0 = .ok (.iload_n 1, 1) := by decide +kernel
theorem dX8_round_1 : decode cX8_round 1 = .ok (.ifCond .lt 11, 3) := by decide +kernel
theorem dX8_round_4 : decode cX8_round 4 = .ok (.iload_n 1, 1) := by decide +kernel
theorem dX8_round_5 : decode cX8_round 5 = .ok (.aload_n 0, 1) := by decide +kernel
theorem dX8_round_6 : decode cX8_round 6 = .ok (.getfield 193, 3) := by decide +kernel
theorem dX8_round_9 : decode cX8_round 9 = .ok (.if_icmp .lt 5, 3) := by decide +kernel
theorem dX8_round_12 : decode cX8_round 12 = .ok (.iconst (-1), 1) := by decide +kernel
theorem dX8_round_13 : decode cX8_round 13 = .ok (.ireturn, 1) := by decide +kernel
theorem dX8_round_14 : decode cX8_round 14 = .ok (.iload_n 2, 1) := by decide +kernel
theorem dX8_round_15 : decode cX8_round 15 = .ok (.ifCond .ne 12, 3) := by decide +kernel
theorem dX8_round_18 : decode cX8_round 18 = .ok (.aload_n 0, 1) := by decide +kernel
theorem dX8_round_19 : decode cX8_round 19 = .ok (.getfield 50, 3) := by decide +kernel
theorem dX8_round_22 : decode cX8_round 22 = .ok (.iload_n 1, 1) := by decide +kernel
theorem dX8_round_23 : decode cX8_round 23 = .ok (.iaload, 1) := by decide +kernel
theorem dX8_round_24 : decode cX8_round 24 = .ok (.goto 32, 3) := by decide +kernel
theorem dX8_round_27 : decode cX8_round 27 = .ok (.iload_n 2, 1) := by decide +kernel
theorem dX8_round_28 : decode cX8_round 28 = .ok (.iconst 1, 1) := by decide +kernel
theorem dX8_round_29 : decode cX8_round 29 = .ok (.if_icmp .ne 12, 3) := by decide +kernel
theorem dX8_round_32 : decode cX8_round 32 = .ok (.aload_n 0, 1) := by decide +kernel
theorem dX8_round_33 : decode cX8_round 33 = .ok (.getfield 53, 3) := by decide +kernel
theorem dX8_round_36 : decode cX8_round 36 = .ok (.iload_n 1, 1) := by decide +kernel
theorem dX8_round_37 : decode cX8_round 37 = .ok (.iaload, 1) := by decide +kernel
theorem dX8_round_38 : decode cX8_round 38 = .ok (.goto 18, 3) := by decide +kernel
theorem dX8_round_41 : decode cX8_round 41 = .ok (.iload_n 2, 1) := by decide +kernel
theorem dX8_round_42 : decode cX8_round 42 = .ok (.iconst 2, 1) := by decide +kernel
theorem dX8_round_43 : decode cX8_round 43 = .ok (.if_icmp .ne 12, 3) := by decide +kernel
theorem dX8_round_46 : decode cX8_round 46 = .ok (.aload_n 0, 1) := by decide +kernel
theorem dX8_round_47 : decode cX8_round 47 = .ok (.getfield 56, 3) := by decide +kernel
theorem dX8_round_50 : decode cX8_round 50 = .ok (.iload_n 1, 1) := by decide +kernel
theorem dX8_round_51 : decode cX8_round 51 = .ok (.iaload, 1) := by decide +kernel
theorem dX8_round_52 : decode cX8_round 52 = .ok (.goto 4, 3) := by decide +kernel
theorem dX8_round_55 : decode cX8_round 55 = .ok (.iconst (-1), 1) := by decide +kernel
theorem dX8_round_56 : decode cX8_round 56 = .ok (.ireturn, 1) := by decide +kernel
theorem dX8_words_0 : decode cX8_words 0 = .ok (.aload_n 0, 1) := by decide +kernel
theorem dX8_words_1 : decode cX8_words 1 = .ok (.getfield 94, 3) := by decide +kernel
theorem dX8_words_4 : decode cX8_words 4 = .ok (.ifCond .ne 5, 3) := by decide +kernel
theorem dX8_words_7 : decode cX8_words 7 = .ok (.iconst (-1), 1) := by decide +kernel
theorem dX8_words_8 : decode cX8_words 8 = .ok (.ireturn, 1) := by decide +kernel
theorem dX8_words_9 : decode cX8_words 9 = .ok (.iload_n 1, 1) := by decide +kernel
theorem dX8_words_10 : decode cX8_words 10 = .ok (.iconst 1, 1) := by decide +kernel
theorem dX8_words_11 : decode cX8_words 11 = .ok (.if_icmp .lt 9, 3) := by decide +kernel
theorem dX8_words_14 : decode cX8_words 14 = .ok (.iload_n 1, 1) := by decide +kernel
theorem dX8_words_15 : decode cX8_words 15 = .ok (.bipush 10, 2) := by decide +kernel
theorem dX8_words_17 : decode cX8_words 17 = .ok (.if_icmp .le 6, 3) := by decide +kernel
theorem dX8_words_20 : decode cX8_words 20 = .ok (.bipush (-2), 2) := by decide +kernel
theorem dX8_words_22 : decode cX8_words 22 = .ok (.ireturn, 1) := by decide +kernel
theorem dX8_words_23 : decode cX8_words 23 = .ok (.iconst 0, 1) := by decide +kernel
theorem dX8_words_24 : decode cX8_words 24 = .ok (.istore_n 2, 1) := by decide +kernel
theorem dX8_words_25 : decode cX8_words 25 = .ok (.lconst 0, 1) := by decide +kernel
theorem dX8_words_26 : decode cX8_words 26 = .ok (.lstore_n 3, 1) := by decide +kernel
theorem dX8_words_27 : decode cX8_words 27 = .ok (.lconst 0, 1) := by decide +kernel
theorem dX8_words_28 : decode cX8_words 28 = .ok (.lstore 5, 2) := by decide +kernel
theorem dX8_words_30 : decode cX8_words 30 = .ok (.iconst 0, 1) := by decide +kernel
theorem dX8_words_31 : decode cX8_words 31 = .ok (.istore 7, 2) := by decide +kernel
theorem dX8_words_33 : decode cX8_words 33 = .ok (.iload 7, 2) := by decide +kernel
theorem dX8_words_35 : decode cX8_words 35 = .ok (.iconst 1, 1) := by decide +kernel
theorem dX8_words_36 : decode cX8_words 36 = .ok (.iadd, 1) := by decide +kernel
theorem dX8_words_37 : decode cX8_words 37 = .ok (.aload_n 0, 1) := by decide +kernel
theorem dX8_words_38 : decode cX8_words 38 = .ok (.getfield 94, 3) := by decide +kernel
theorem dX8_words_41 : decode cX8_words 41 = .ok (.if_icmp .ge 190, 3) := by decide +kernel
theorem dX8_words_44 : decode cX8_words 44 = .ok (.lload_n 3, 1) := by decide +kernel
theorem dX8_words_45 : decode cX8_words 45 = .ok (.aload_n 0, 1) := by decide +kernel
theorem dX8_words_46 : decode cX8_words 46 = .ok (.getfield 19, 3) := by decide +kernel
theorem dX8_words_49 : decode cX8_words 49 = .ok (.aload_n 0, 1) := by decide +kernel
theorem dX8_words_50 : decode cX8_words 50 = .ok (.getfield 26, 3) := by decide +kernel
theorem dX8_words_53 : decode cX8_words 53 = .ok (.iload 7, 2) := by decide +kernel
theorem dX8_words_55 : decode cX8_words 55 = .ok (.iaload, 1) := by decide +kernel
theorem dX8_words_56 : decode cX8_words 56 = .ok (.laload, 1) := by decide +kernel
theorem dX8_words_57 : decode cX8_words 57 = .ok (.ladd, 1) := by decide +kernel
theorem dX8_words_58 : decode cX8_words 58 = .ok (.lstore_n 3, 1) := by decide +kernel
theorem dX8_words_59 : decode cX8_words 59 = .ok (.lload 5, 2) := by decide +kernel
theorem dX8_words_61 : decode cX8_words 61 = .ok (.aload_n 0, 1) := by decide +kernel
theorem dX8_words_62 : decode cX8_words 62 = .ok (.getfield 23, 3) := by decide +kernel
theorem dX8_words_65 : decode cX8_words 65 = .ok (.aload_n 0, 1) := by decide +kernel
theorem dX8_words_66 : decode cX8_words 66 = .ok (.getfield 26, 3) := by decide +kernel
theorem dX8_words_69 : decode cX8_words 69 = .ok (.iload 7, 2) := by decide +kernel
theorem dX8_words_71 : decode cX8_words 71 = .ok (.iaload, 1) := by decide +kernel
theorem dX8_words_72 : decode cX8_words 72 = .ok (.laload, 1) := by decide +kernel
theorem dX8_words_73 : decode cX8_words 73 = .ok (.ladd, 1) := by decide +kernel
theorem dX8_words_74 : decode cX8_words 74 = .ok (.lstore 5, 2) := by decide +kernel
theorem dX8_words_76 : decode cX8_words 76 = .ok (.lload_n 3, 1) := by decide +kernel
theorem dX8_words_77 : decode cX8_words 77 = .ok (.lstore 8, 2) := by decide +kernel
theorem dX8_words_79 : decode cX8_words 79 = .ok (.lload 5, 2) := by decide +kernel
theorem dX8_words_81 : decode cX8_words 81 = .ok (.lstore 10, 2) := by decide +kernel
theorem dX8_words_83 : decode cX8_words 83 = .ok (.iconst 0, 1) := by decide +kernel
theorem dX8_words_84 : decode cX8_words 84 = .ok (.istore 12, 2) := by decide +kernel
theorem dX8_words_86 : decode cX8_words 86 = .ok (.iload 12, 2) := by decide +kernel
theorem dX8_words_88 : decode cX8_words 88 = .ok (.iload_n 1, 1) := by decide +kernel
theorem dX8_words_89 : decode cX8_words 89 = .ok (.if_icmp .ge 136, 3) := by decide +kernel
theorem dX8_words_92 : decode cX8_words 92 = .ok (.iload 12, 2) := by decide +kernel
theorem dX8_words_94 : decode cX8_words 94 = .ok (.ifCond .le 24, 3) := by decide +kernel
theorem dX8_words_97 : decode cX8_words 97 = .ok (.aload_n 0, 1) := by decide +kernel
theorem dX8_words_98 : decode cX8_words 98 = .ok (.lload 8, 2) := by decide +kernel
theorem dX8_words_100 : decode cX8_words 100 = .ok (.lload 10, 2) := by decide +kernel
theorem dX8_words_102 : decode cX8_words 102 = .ok (.iconst 1, 1) := by decide +kernel
theorem dX8_words_103 : decode cX8_words 103 = .ok (.invokevirtual 163, 3) := by decide +kernel
theorem dX8_words_106 : decode cX8_words 106 = .ok (.aload_n 0, 1) := by decide +kernel
theorem dX8_words_107 : decode cX8_words 107 = .ok (.getfield 139, 3) := by decide +kernel
theorem dX8_words_110 : decode cX8_words 110 = .ok (.lstore 8, 2) := by decide +kernel
theorem dX8_words_112 : decode cX8_words 112 = .ok (.aload_n 0, 1) := by decide +kernel
theorem dX8_words_113 : decode cX8_words 113 = .ok (.getfield 142, 3) := by decide +kernel
theorem dX8_words_116 : decode cX8_words 116 = .ok (.lstore 10, 2) := by decide +kernel
theorem dX8_words_118 : decode cX8_words 118 = .ok (.lload 8, 2) := by decide +kernel
theorem dX8_words_120 : decode cX8_words 120 = .ok (.lconst 0, 1) := by decide +kernel
theorem dX8_words_121 : decode cX8_words 121 = .ok (.lcmp, 1) := by decide +kernel
theorem dX8_words_122 : decode cX8_words 122 = .ok (.ifCond .ne 14, 3) := by decide +kernel
theorem dX8_words_125 : decode cX8_words 125 = .ok (.lload 10, 2) := by decide +kernel
theorem dX8_words_127 : decode cX8_words 127 = .ok (.lconst 0, 1) := by decide +kernel
theorem dX8_words_128 : decode cX8_words 128 = .ok (.lcmp, 1) := by decide +kernel
theorem dX8_words_129 : decode cX8_words 129 = .ok (.ifCond .ne 7, 3) := by decide +kernel
theorem dX8_words_132 : decode cX8_words 132 = .ok (.iconst 1, 1) := by decide +kernel
theorem dX8_words_133 : decode cX8_words 133 = .ok (.goto 4, 3) := by decide +kernel
theorem dX8_words_136 : decode cX8_words 136 = .ok (.iconst 0, 1) := by decide +kernel
theorem dX8_words_137 : decode cX8_words 137 = .ok (.istore 13, 2) := by decide +kernel
theorem dX8_words_139 : decode cX8_words 139 = .ok (.iconst 0, 1) := by decide +kernel
theorem dX8_words_140 : decode cX8_words 140 = .ok (.istore 14, 2) := by decide +kernel
theorem dX8_words_142 : decode cX8_words 142 = .ok (.iload 14, 2) := by decide +kernel
theorem dX8_words_144 : decode cX8_words 144 = .ok (.iload_n 2, 1) := by decide +kernel
theorem dX8_words_145 : decode cX8_words 145 = .ok (.if_icmp .ge 47, 3) := by decide +kernel
theorem dX8_words_148 : decode cX8_words 148 = .ok (.iload 13, 2) := by decide +kernel
theorem dX8_words_150 : decode cX8_words 150 = .ok (.ifCond .ne 29, 3) := by decide +kernel
theorem dX8_words_153 : decode cX8_words 153 = .ok (.aload_n 0, 1) := by decide +kernel
theorem dX8_words_154 : decode cX8_words 154 = .ok (.getfield 69, 3) := by decide +kernel
theorem dX8_words_157 : decode cX8_words 157 = .ok (.iload 14, 2) := by decide +kernel
theorem dX8_words_159 : decode cX8_words 159 = .ok (.laload, 1) := by decide +kernel
theorem dX8_words_160 : decode cX8_words 160 = .ok (.lload 8, 2) := by decide +kernel
theorem dX8_words_162 : decode cX8_words 162 = .ok (.lcmp, 1) := by decide +kernel
theorem dX8_words_163 : decode cX8_words 163 = .ok (.ifCond .ne 20, 3) := by decide +kernel
theorem dX8_words_166 : decode cX8_words 166 = .ok (.aload_n 0, 1) := by decide +kernel
theorem dX8_words_167 : decode cX8_words 167 = .ok (.getfield 72, 3) := by decide +kernel
theorem dX8_words_170 : decode cX8_words 170 = .ok (.iload 14, 2) := by decide +kernel
theorem dX8_words_172 : decode cX8_words 172 = .ok (.laload, 1) := by decide +kernel
theorem dX8_words_173 : decode cX8_words 173 = .ok (.lload 10, 2) := by decide +kernel
theorem dX8_words_175 : decode cX8_words 175 = .ok (.lcmp, 1) := by decide +kernel
theorem dX8_words_176 : decode cX8_words 176 = .ok (.ifCond .ne 7, 3) := by decide +kernel
theorem dX8_words_179 : decode cX8_words 179 = .ok (.iconst 1, 1) := by decide +kernel
theorem dX8_words_180 : decode cX8_words 180 = .ok (.goto 4, 3) := by decide +kernel
theorem dX8_words_183 : decode cX8_words 183 = .ok (.iconst 0, 1) := by decide +kernel
theorem dX8_words_184 : decode cX8_words 184 = .ok (.istore 13, 2) := by decide +kernel
theorem dX8_words_186 : decode cX8_words 186 = .ok (.iinc 14 1, 3) := by decide +kernel
theorem dX8_words_189 : decode cX8_words 189 = .ok (.goto (-47), 3) := by decide +kernel
theorem dX8_words_192 : decode cX8_words 192 = .ok (.iload 13, 2) := by decide +kernel
theorem dX8_words_194 : decode cX8_words 194 = .ok (.ifCond .eq 6, 3) := by decide +kernel
theorem dX8_words_197 : decode cX8_words 197 = .ok (.goto 22, 3) := by decide +kernel
theorem dX8_words_200 : decode cX8_words 200 = .ok (.aload_n 0, 1) := by decide +kernel
theorem dX8_words_201 : decode cX8_words 201 = .ok (.getfield 69, 3) := by decide +kernel
theorem dX8_words_204 : decode cX8_words 204 = .ok (.iload_n 2, 1) := by decide +kernel
theorem dX8_words_205 : decode cX8_words 205 = .ok (.lload 8, 2) := by decide +kernel
theorem dX8_words_207 : decode cX8_words 207 = .ok (.lastore, 1) := by decide +kernel
theorem dX8_words_208 : decode cX8_words 208 = .ok (.aload_n 0, 1) := by decide +kernel
theorem dX8_words_209 : decode cX8_words 209 = .ok (.getfield 72, 3) := by decide +kernel
theorem dX8_words_212 : decode cX8_words 212 = .ok (.iload_n 2, 1) := by decide +kernel
theorem dX8_words_213 : decode cX8_words 213 = .ok (.lload 10, 2) := by decide +kernel
theorem dX8_words_215 : decode cX8_words 215 = .ok (.lastore, 1) := by decide +kernel
theorem dX8_words_216 : decode cX8_words 216 = .ok (.iinc 2 1, 3) := by decide +kernel
theorem dX8_words_219 : decode cX8_words 219 = .ok (.iinc 12 1, 3) := by decide +kernel
theorem dX8_words_222 : decode cX8_words 222 = .ok (.goto (-136), 3) := by decide +kernel
theorem dX8_words_225 : decode cX8_words 225 = .ok (.iinc 7 1, 3) := by decide +kernel
theorem dX8_words_228 : decode cX8_words 228 = .ok (.goto (-195), 3) := by decide +kernel
theorem dX8_words_231 : decode cX8_words 231 = .ok (.iload_n 2, 1) := by decide +kernel
theorem dX8_words_232 : decode cX8_words 232 = .ok (.iconst 1, 1) := by decide +kernel
theorem dX8_words_233 : decode cX8_words 233 = .ok (.iadd, 1) := by decide +kernel
theorem dX8_words_234 : decode cX8_words 234 = .ok (.ireturn, 1) := by decide +kernel
theorem dX8_numbered_0 : decode cX8_numbered 0 = .ok (.iconst 0, 1) := by decide +kernel
theorem dX8_numbered_1 : decode cX8_numbered 1 = .ok (.istore_n 1, 1) := by decide +kernel
theorem dX8_numbered_2 : decode cX8_numbered 2 = .ok (.aload_n 0, 1) := by decide +kernel
theorem dX8_numbered_3 : decode cX8_numbered 3 = .ok (.getfield 94, 3) := by decide +kernel
theorem dX8_numbered_6 : decode cX8_numbered 6 = .ok (.iconst 1, 1) := by decide +kernel
theorem dX8_numbered_7 : decode cX8_numbered 7 = .ok (.isub, 1) := by decide +kernel
theorem dX8_numbered_8 : decode cX8_numbered 8 = .ok (.istore_n 2, 1) := by decide +kernel
theorem dX8_numbered_9 : decode cX8_numbered 9 = .ok (.iload_n 2, 1) := by decide +kernel
theorem dX8_numbered_10 : decode cX8_numbered 10 = .ok (.ifCond .lt 39, 3) := by decide +kernel
theorem dX8_numbered_13 : decode cX8_numbered 13 = .ok (.iconst 0, 1) := by decide +kernel
theorem dX8_numbered_14 : decode cX8_numbered 14 = .ok (.istore_n 3, 1) := by decide +kernel
theorem dX8_numbered_15 : decode cX8_numbered 15 = .ok (.aload_n 0, 1) := by decide +kernel
theorem dX8_numbered_16 : decode cX8_numbered 16 = .ok (.getfield 78, 3) := by decide +kernel
theorem dX8_numbered_19 : decode cX8_numbered 19 = .ok (.iload_n 3, 1) := by decide +kernel
theorem dX8_numbered_20 : decode cX8_numbered 20 = .ok (.iaload, 1) := by decide +kernel
theorem dX8_numbered_21 : decode cX8_numbered 21 = .ok (.aload_n 0, 1) := by decide +kernel
theorem dX8_numbered_22 : decode cX8_numbered 22 = .ok (.getfield 81, 3) := by decide +kernel
theorem dX8_numbered_25 : decode cX8_numbered 25 = .ok (.iload_n 2, 1) := by decide +kernel
theorem dX8_numbered_26 : decode cX8_numbered 26 = .ok (.iaload, 1) := by decide +kernel
theorem dX8_numbered_27 : decode cX8_numbered 27 = .ok (.if_icmp .eq 9, 3) := by decide +kernel
theorem dX8_numbered_30 : decode cX8_numbered 30 = .ok (.iinc 3 1, 3) := by decide +kernel
theorem dX8_numbered_33 : decode cX8_numbered 33 = .ok (.goto (-18), 3) := by decide +kernel
theorem dX8_numbered_36 : decode cX8_numbered 36 = .ok (.bipush 8, 2) := by decide +kernel
theorem dX8_numbered_38 : decode cX8_numbered 38 = .ok (.iload_n 1, 1) := by decide +kernel
theorem dX8_numbered_39 : decode cX8_numbered 39 = .ok (.imul, 1) := by decide +kernel
theorem dX8_numbered_40 : decode cX8_numbered 40 = .ok (.iload_n 3, 1) := by decide +kernel
theorem dX8_numbered_41 : decode cX8_numbered 41 = .ok (.iadd, 1) := by decide +kernel
theorem dX8_numbered_42 : decode cX8_numbered 42 = .ok (.istore_n 1, 1) := by decide +kernel
theorem dX8_numbered_43 : decode cX8_numbered 43 = .ok (.iinc 2 (-1), 3) := by decide +kernel
theorem dX8_numbered_46 : decode cX8_numbered 46 = .ok (.goto (-37), 3) := by decide +kernel
theorem dX8_numbered_49 : decode cX8_numbered 49 = .ok (.iload_n 1, 1) := by decide +kernel
theorem dX8_numbered_50 : decode cX8_numbered 50 = .ok (.ireturn, 1) := by decide +kernel
theorem dX8_notes_0 : decode cX8_notes 0 = .ok (.iconst 0, 1) := by decide +kernel
theorem dX8_notes_1 : decode cX8_notes 1 = .ok (.istore_n 2, 1) := by decide +kernel
theorem dX8_notes_2 : decode cX8_notes 2 = .ok (.iload_n 2, 1) := by decide +kernel
theorem dX8_notes_3 : decode cX8_notes 3 = .ok (.aload_n 0, 1) := by decide +kernel
theorem dX8_notes_4 : decode cX8_notes 4 = .ok (.getfield 200, 3) := by decide +kernel
theorem dX8_notes_7 : decode cX8_notes 7 = .ok (.if_icmp .ge 20, 3) := by decide +kernel
theorem dX8_notes_10 : decode cX8_notes 10 = .ok (.aload_n 0, 1) := by decide +kernel
theorem dX8_notes_11 : decode cX8_notes 11 = .ok (.getfield 75, 3) := by decide +kernel
theorem dX8_notes_14 : decode cX8_notes 14 = .ok (.iload_n 2, 1) := by decide +kernel
theorem dX8_notes_15 : decode cX8_notes 15 = .ok (.iaload, 1) := by decide +kernel
theorem dX8_notes_16 : decode cX8_notes 16 = .ok (.iload_n 1, 1) := by decide +kernel
theorem dX8_notes_17 : decode cX8_notes 17 = .ok (.if_icmp .ne 4, 3) := by decide +kernel
theorem dX8_notes_20 : decode cX8_notes 20 = .ok (.return_, 1) := by decide +kernel
theorem dX8_notes_21 : decode cX8_notes 21 = .ok (.iinc 2 1, 3) := by decide +kernel
theorem dX8_notes_24 : decode cX8_notes 24 = .ok (.goto (-22), 3) := by decide +kernel
theorem dX8_notes_27 : decode cX8_notes 27 = .ok (.aload_n 0, 1) := by decide +kernel
theorem dX8_notes_28 : decode cX8_notes 28 = .ok (.getfield 75, 3) := by decide +kernel
theorem dX8_notes_31 : decode cX8_notes 31 = .ok (.aload_n 0, 1) := by decide +kernel
theorem dX8_notes_32 : decode cX8_notes 32 = .ok (.getfield 200, 3) := by decide +kernel
theorem dX8_notes_35 : decode cX8_notes 35 = .ok (.iload_n 1, 1) := by decide +kernel
theorem dX8_notes_36 : decode cX8_notes 36 = .ok (.iastore, 1) := by decide +kernel
theorem dX8_notes_37 : decode cX8_notes 37 = .ok (.aload_n 0, 1) := by decide +kernel
theorem dX8_notes_38 : decode cX8_notes 38 = .ok (.dup, 1) := by decide +kernel
theorem dX8_notes_39 : decode cX8_notes 39 = .ok (.getfield 200, 3) := by decide +kernel
theorem dX8_notes_42 : decode cX8_notes 42 = .ok (.iconst 1, 1) := by decide +kernel
theorem dX8_notes_43 : decode cX8_notes 43 = .ok (.iadd, 1) := by decide +kernel
theorem dX8_notes_44 : decode cX8_notes 44 = .ok (.putfield 200, 3) := by decide +kernel
theorem dX8_notes_47 : decode cX8_notes 47 = .ok (.return_, 1) := by decide +kernel
theorem dX8_takes_0 : decode cX8_takes 0 = .ok (.iconst 0, 1) := by decide +kernel
theorem dX8_takes_1 : decode cX8_takes 1 = .ok (.istore_n 2, 1) := by decide +kernel
theorem dX8_takes_2 : decode cX8_takes 2 = .ok (.iload_n 2, 1) := by decide +kernel
theorem dX8_takes_3 : decode cX8_takes 3 = .ok (.aload_n 0, 1) := by decide +kernel
theorem dX8_takes_4 : decode cX8_takes 4 = .ok (.getfield 94, 3) := by decide +kernel
theorem dX8_takes_7 : decode cX8_takes 7 = .ok (.if_icmp .ge 30, 3) := by decide +kernel
theorem dX8_takes_10 : decode cX8_takes 10 = .ok (.aload_n 0, 1) := by decide +kernel
theorem dX8_takes_11 : decode cX8_takes 11 = .ok (.getfield 78, 3) := by decide +kernel
theorem dX8_takes_14 : decode cX8_takes 14 = .ok (.iload_n 2, 1) := by decide +kernel
theorem dX8_takes_15 : decode cX8_takes 15 = .ok (.iload_n 2, 1) := by decide +kernel
theorem dX8_takes_16 : decode cX8_takes 16 = .ok (.iastore, 1) := by decide +kernel
theorem dX8_takes_17 : decode cX8_takes 17 = .ok (.aload_n 0, 1) := by decide +kernel
theorem dX8_takes_18 : decode cX8_takes 18 = .ok (.getfield 81, 3) := by decide +kernel
theorem dX8_takes_21 : decode cX8_takes 21 = .ok (.iload_n 2, 1) := by decide +kernel
theorem dX8_takes_22 : decode cX8_takes 22 = .ok (.iload_n 1, 1) := by decide +kernel
theorem dX8_takes_23 : decode cX8_takes 23 = .ok (.iconst 3, 1) := by decide +kernel
theorem dX8_takes_24 : decode cX8_takes 24 = .ok (.iload_n 2, 1) := by decide +kernel
theorem dX8_takes_25 : decode cX8_takes 25 = .ok (.imul, 1) := by decide +kernel
theorem dX8_takes_26 : decode cX8_takes 26 = .ok (.ishr, 1) := by decide +kernel
theorem dX8_takes_27 : decode cX8_takes 27 = .ok (.bipush 7, 2) := by decide +kernel
theorem dX8_takes_29 : decode cX8_takes 29 = .ok (.iand, 1) := by decide +kernel
theorem dX8_takes_30 : decode cX8_takes 30 = .ok (.iastore, 1) := by decide +kernel
theorem dX8_takes_31 : decode cX8_takes 31 = .ok (.iinc 2 1, 3) := by decide +kernel
theorem dX8_takes_34 : decode cX8_takes 34 = .ok (.goto (-32), 3) := by decide +kernel
theorem dX8_takes_37 : decode cX8_takes 37 = .ok (.return_, 1) := by decide +kernel
theorem dX8_classes_0 : decode cX8_classes 0 = .ok (.aload_n 0, 1) := by decide +kernel
theorem dX8_classes_1 : decode cX8_classes 1 = .ok (.getfield 94, 3) := by decide +kernel
theorem dX8_classes_4 : decode cX8_classes 4 = .ok (.ifCond .ne 5, 3) := by decide +kernel
theorem dX8_classes_7 : decode cX8_classes 7 = .ok (.iconst (-1), 1) := by decide +kernel
theorem dX8_classes_8 : decode cX8_classes 8 = .ok (.ireturn, 1) := by decide +kernel
theorem dX8_classes_9 : decode cX8_classes 9 = .ok (.aload_n 0, 1) := by decide +kernel
theorem dX8_classes_10 : decode cX8_classes 10 = .ok (.getfield 94, 3) := by decide +kernel
theorem dX8_classes_13 : decode cX8_classes 13 = .ok (.bipush 6, 2) := by decide +kernel
theorem dX8_classes_15 : decode cX8_classes 15 = .ok (.if_icmp .le 6, 3) := by decide +kernel
theorem dX8_classes_18 : decode cX8_classes 18 = .ok (.bipush (-2), 2) := by decide +kernel
theorem dX8_classes_20 : decode cX8_classes 20 = .ok (.ireturn, 1) := by decide +kernel
theorem dX8_classes_21 : decode cX8_classes 21 = .ok (.iconst 0, 1) := by decide +kernel
theorem dX8_classes_22 : decode cX8_classes 22 = .ok (.istore_n 1, 1) := by decide +kernel
theorem dX8_classes_23 : decode cX8_classes 23 = .ok (.iload_n 1, 1) := by decide +kernel
theorem dX8_classes_24 : decode cX8_classes 24 = .ok (.aload_n 0, 1) := by decide +kernel
theorem dX8_classes_25 : decode cX8_classes 25 = .ok (.getfield 94, 3) := by decide +kernel
theorem dX8_classes_28 : decode cX8_classes 28 = .ok (.if_icmp .ge 33, 3) := by decide +kernel
theorem dX8_classes_31 : decode cX8_classes 31 = .ok (.aload_n 0, 1) := by decide +kernel
theorem dX8_classes_32 : decode cX8_classes 32 = .ok (.getfield 78, 3) := by decide +kernel
theorem dX8_classes_35 : decode cX8_classes 35 = .ok (.iload_n 1, 1) := by decide +kernel
theorem dX8_classes_36 : decode cX8_classes 36 = .ok (.aload_n 0, 1) := by decide +kernel
theorem dX8_classes_37 : decode cX8_classes 37 = .ok (.getfield 26, 3) := by decide +kernel
theorem dX8_classes_40 : decode cX8_classes 40 = .ok (.iload_n 1, 1) := by decide +kernel
theorem dX8_classes_41 : decode cX8_classes 41 = .ok (.iaload, 1) := by decide +kernel
theorem dX8_classes_42 : decode cX8_classes 42 = .ok (.iastore, 1) := by decide +kernel
theorem dX8_classes_43 : decode cX8_classes 43 = .ok (.aload_n 0, 1) := by decide +kernel
theorem dX8_classes_44 : decode cX8_classes 44 = .ok (.getfield 81, 3) := by decide +kernel
theorem dX8_classes_47 : decode cX8_classes 47 = .ok (.iload_n 1, 1) := by decide +kernel
theorem dX8_classes_48 : decode cX8_classes 48 = .ok (.aload_n 0, 1) := by decide +kernel
theorem dX8_classes_49 : decode cX8_classes 49 = .ok (.getfield 29, 3) := by decide +kernel
theorem dX8_classes_52 : decode cX8_classes 52 = .ok (.iload_n 1, 1) := by decide +kernel
theorem dX8_classes_53 : decode cX8_classes 53 = .ok (.iaload, 1) := by decide +kernel
theorem dX8_classes_54 : decode cX8_classes 54 = .ok (.iastore, 1) := by decide +kernel
theorem dX8_classes_55 : decode cX8_classes 55 = .ok (.iinc 1 1, 3) := by decide +kernel
theorem dX8_classes_58 : decode cX8_classes 58 = .ok (.goto (-35), 3) := by decide +kernel
theorem dX8_classes_61 : decode cX8_classes 61 = .ok (.aload_n 0, 1) := by decide +kernel
theorem dX8_classes_62 : decode cX8_classes 62 = .ok (.iconst 0, 1) := by decide +kernel
theorem dX8_classes_63 : decode cX8_classes 63 = .ok (.putfield 200, 3) := by decide +kernel
theorem dX8_classes_66 : decode cX8_classes 66 = .ok (.aload_n 0, 1) := by decide +kernel
theorem dX8_classes_67 : decode cX8_classes 67 = .ok (.aload_n 0, 1) := by decide +kernel
theorem dX8_classes_68 : decode cX8_classes 68 = .ok (.invokevirtual 203, 3) := by decide +kernel
theorem dX8_classes_71 : decode cX8_classes 71 = .ok (.invokevirtual 206, 3) := by decide +kernel
theorem dX8_classes_74 : decode cX8_classes 74 = .ok (.iconst 0, 1) := by decide +kernel
theorem dX8_classes_75 : decode cX8_classes 75 = .ok (.istore_n 1, 1) := by decide +kernel
theorem dX8_classes_76 : decode cX8_classes 76 = .ok (.iload_n 1, 1) := by decide +kernel
theorem dX8_classes_77 : decode cX8_classes 77 = .ok (.aload_n 0, 1) := by decide +kernel
theorem dX8_classes_78 : decode cX8_classes 78 = .ok (.getfield 200, 3) := by decide +kernel
theorem dX8_classes_81 : decode cX8_classes 81 = .ok (.if_icmp .ge 103, 3) := by decide +kernel
theorem dX8_classes_84 : decode cX8_classes 84 = .ok (.iconst 0, 1) := by decide +kernel
theorem dX8_classes_85 : decode cX8_classes 85 = .ok (.istore_n 2, 1) := by decide +kernel
theorem dX8_classes_86 : decode cX8_classes 86 = .ok (.iload_n 2, 1) := by decide +kernel
theorem dX8_classes_87 : decode cX8_classes 87 = .ok (.iconst 2, 1) := by decide +kernel
theorem dX8_classes_88 : decode cX8_classes 88 = .ok (.if_icmp .ge 90, 3) := by decide +kernel
theorem dX8_classes_91 : decode cX8_classes 91 = .ok (.aload_n 0, 1) := by decide +kernel
theorem dX8_classes_92 : decode cX8_classes 92 = .ok (.aload_n 0, 1) := by decide +kernel
theorem dX8_classes_93 : decode cX8_classes 93 = .ok (.getfield 75, 3) := by decide +kernel
theorem dX8_classes_96 : decode cX8_classes 96 = .ok (.iload_n 1, 1) := by decide +kernel
theorem dX8_classes_97 : decode cX8_classes 97 = .ok (.iaload, 1) := by decide +kernel
theorem dX8_classes_98 : decode cX8_classes 98 = .ok (.invokevirtual 209, 3) := by decide +kernel
theorem dX8_classes_101 : decode cX8_classes 101 = .ok (.aload_n 0, 1) := by decide +kernel
theorem dX8_classes_102 : decode cX8_classes 102 = .ok (.getfield 78, 3) := by decide +kernel
theorem dX8_classes_105 : decode cX8_classes 105 = .ok (.aload_n 0, 1) := by decide +kernel
theorem dX8_classes_106 : decode cX8_classes 106 = .ok (.getfield 94, 3) := by decide +kernel
theorem dX8_classes_109 : decode cX8_classes 109 = .ok (.iconst 1, 1) := by decide +kernel
theorem dX8_classes_110 : decode cX8_classes 110 = .ok (.isub, 1) := by decide +kernel
theorem dX8_classes_111 : decode cX8_classes 111 = .ok (.iaload, 1) := by decide +kernel
theorem dX8_classes_112 : decode cX8_classes 112 = .ok (.istore_n 3, 1) := by decide +kernel
theorem dX8_classes_113 : decode cX8_classes 113 = .ok (.aload_n 0, 1) := by decide +kernel
theorem dX8_classes_114 : decode cX8_classes 114 = .ok (.getfield 81, 3) := by decide +kernel
theorem dX8_classes_117 : decode cX8_classes 117 = .ok (.aload_n 0, 1) := by decide +kernel
theorem dX8_classes_118 : decode cX8_classes 118 = .ok (.getfield 94, 3) := by decide +kernel
theorem dX8_classes_121 : decode cX8_classes 121 = .ok (.iconst 1, 1) := by decide +kernel
theorem dX8_classes_122 : decode cX8_classes 122 = .ok (.isub, 1) := by decide +kernel
theorem dX8_classes_123 : decode cX8_classes 123 = .ok (.iaload, 1) := by decide +kernel
theorem dX8_classes_124 : decode cX8_classes 124 = .ok (.istore 4, 2) := by decide +kernel
theorem dX8_classes_126 : decode cX8_classes 126 = .ok (.iload_n 3, 1) := by decide +kernel
theorem dX8_classes_127 : decode cX8_classes 127 = .ok (.iload 4, 2) := by decide +kernel
theorem dX8_classes_129 : decode cX8_classes 129 = .ok (.if_icmp .ne 6, 3) := by decide +kernel
theorem dX8_classes_132 : decode cX8_classes 132 = .ok (.goto 40, 3) := by decide +kernel
theorem dX8_classes_135 : decode cX8_classes 135 = .ok (.iload_n 2, 1) := by decide +kernel
theorem dX8_classes_136 : decode cX8_classes 136 = .ok (.ifCond .ne 17, 3) := by decide +kernel
theorem dX8_classes_139 : decode cX8_classes 139 = .ok (.aload_n 0, 1) := by decide +kernel
theorem dX8_classes_140 : decode cX8_classes 140 = .ok (.aload_n 0, 1) := by decide +kernel
theorem dX8_classes_141 : decode cX8_classes 141 = .ok (.getfield 81, 3) := by decide +kernel
theorem dX8_classes_144 : decode cX8_classes 144 = .ok (.iload 4, 2) := by decide +kernel
theorem dX8_classes_146 : decode cX8_classes 146 = .ok (.iload_n 3, 1) := by decide +kernel
theorem dX8_classes_147 : decode cX8_classes 147 = .ok (.invokevirtual 171, 3) := by decide +kernel
theorem dX8_classes_150 : decode cX8_classes 150 = .ok (.goto 14, 3) := by decide +kernel
theorem dX8_classes_153 : decode cX8_classes 153 = .ok (.aload_n 0, 1) := by decide +kernel
theorem dX8_classes_154 : decode cX8_classes 154 = .ok (.aload_n 0, 1) := by decide +kernel
theorem dX8_classes_155 : decode cX8_classes 155 = .ok (.getfield 78, 3) := by decide +kernel
theorem dX8_classes_158 : decode cX8_classes 158 = .ok (.iload_n 3, 1) := by decide +kernel
theorem dX8_classes_159 : decode cX8_classes 159 = .ok (.iload 4, 2) := by decide +kernel
theorem dX8_classes_161 : decode cX8_classes 161 = .ok (.invokevirtual 171, 3) := by decide +kernel
theorem dX8_classes_164 : decode cX8_classes 164 = .ok (.aload_n 0, 1) := by decide +kernel
theorem dX8_classes_165 : decode cX8_classes 165 = .ok (.aload_n 0, 1) := by decide +kernel
theorem dX8_classes_166 : decode cX8_classes 166 = .ok (.invokevirtual 203, 3) := by decide +kernel
theorem dX8_classes_169 : decode cX8_classes 169 = .ok (.invokevirtual 206, 3) := by decide +kernel
theorem dX8_classes_172 : decode cX8_classes 172 = .ok (.iinc 2 1, 3) := by decide +kernel
theorem dX8_classes_175 : decode cX8_classes 175 = .ok (.goto (-89), 3) := by decide +kernel
theorem dX8_classes_178 : decode cX8_classes 178 = .ok (.iinc 1 1, 3) := by decide +kernel
theorem dX8_classes_181 : decode cX8_classes 181 = .ok (.goto (-105), 3) := by decide +kernel
theorem dX8_classes_184 : decode cX8_classes 184 = .ok (.aload_n 0, 1) := by decide +kernel
theorem dX8_classes_185 : decode cX8_classes 185 = .ok (.getfield 200, 3) := by decide +kernel
theorem dX8_classes_188 : decode cX8_classes 188 = .ok (.ireturn, 1) := by decide +kernel
theorem dX8_cornerOf_0 : decode cX8_cornerOf 0 = .ok (.iload_n 1, 1) := by decide +kernel
theorem dX8_cornerOf_1 : decode cX8_cornerOf 1 = .ok (.ifCond .eq 15, 3) := by decide +kernel
theorem dX8_cornerOf_4 : decode cX8_cornerOf 4 = .ok (.iload_n 2, 1) := by decide +kernel
theorem dX8_cornerOf_5 : decode cX8_cornerOf 5 = .ok (.ifCond .eq 11, 3) := by decide +kernel
theorem dX8_cornerOf_8 : decode cX8_cornerOf 8 = .ok (.iload_n 2, 1) := by decide +kernel
theorem dX8_cornerOf_9 : decode cX8_cornerOf 9 = .ok (.aload_n 0, 1) := by decide +kernel
theorem dX8_cornerOf_10 : decode cX8_cornerOf 10 = .ok (.getfield 94, 3) := by decide +kernel
theorem dX8_cornerOf_13 : decode cX8_cornerOf 13 = .ok (.if_icmp .ne 7, 3) := by decide +kernel
theorem dX8_cornerOf_16 : decode cX8_cornerOf 16 = .ok (.iload_n 2, 1) := by decide +kernel
theorem dX8_cornerOf_17 : decode cX8_cornerOf 17 = .ok (.goto 9, 3) := by decide +kernel
theorem dX8_cornerOf_20 : decode cX8_cornerOf 20 = .ok (.aload_n 0, 1) := by decide +kernel
theorem dX8_cornerOf_21 : decode cX8_cornerOf 21 = .ok (.getfield 94, 3) := by decide +kernel
theorem dX8_cornerOf_24 : decode cX8_cornerOf 24 = .ok (.iload_n 2, 1) := by decide +kernel
theorem dX8_cornerOf_25 : decode cX8_cornerOf 25 = .ok (.iadd, 1) := by decide +kernel
theorem dX8_cornerOf_26 : decode cX8_cornerOf 26 = .ok (.ireturn, 1) := by decide +kernel
theorem dX8_glues_0 : decode cX8_glues 0 = .ok (.aload_n 0, 1) := by decide +kernel
theorem dX8_glues_1 : decode cX8_glues 1 = .ok (.getfield 84, 3) := by decide +kernel
theorem dX8_glues_4 : decode cX8_glues 4 = .ok (.iload_n 1, 1) := by decide +kernel
theorem dX8_glues_5 : decode cX8_glues 5 = .ok (.iaload, 1) := by decide +kernel
theorem dX8_glues_6 : decode cX8_glues 6 = .ok (.istore_n 3, 1) := by decide +kernel
theorem dX8_glues_7 : decode cX8_glues 7 = .ok (.aload_n 0, 1) := by decide +kernel
theorem dX8_glues_8 : decode cX8_glues 8 = .ok (.getfield 84, 3) := by decide +kernel
theorem dX8_glues_11 : decode cX8_glues 11 = .ok (.iload_n 2, 1) := by decide +kernel
theorem dX8_glues_12 : decode cX8_glues 12 = .ok (.iaload, 1) := by decide +kernel
theorem dX8_glues_13 : decode cX8_glues 13 = .ok (.istore 4, 2) := by decide +kernel
theorem dX8_glues_15 : decode cX8_glues 15 = .ok (.iconst 0, 1) := by decide +kernel
theorem dX8_glues_16 : decode cX8_glues 16 = .ok (.istore 5, 2) := by decide +kernel
theorem dX8_glues_18 : decode cX8_glues 18 = .ok (.iload 5, 2) := by decide +kernel
theorem dX8_glues_20 : decode cX8_glues 20 = .ok (.iconst 2, 1) := by decide +kernel
theorem dX8_glues_21 : decode cX8_glues 21 = .ok (.aload_n 0, 1) := by decide +kernel
theorem dX8_glues_22 : decode cX8_glues 22 = .ok (.getfield 94, 3) := by decide +kernel
theorem dX8_glues_25 : decode cX8_glues 25 = .ok (.imul, 1) := by decide +kernel
theorem dX8_glues_26 : decode cX8_glues 26 = .ok (.if_icmp .ge 29, 3) := by decide +kernel
theorem dX8_glues_29 : decode cX8_glues 29 = .ok (.aload_n 0, 1) := by decide +kernel
theorem dX8_glues_30 : decode cX8_glues 30 = .ok (.getfield 84, 3) := by decide +kernel
theorem dX8_glues_33 : decode cX8_glues 33 = .ok (.iload 5, 2) := by decide +kernel
theorem dX8_glues_35 : decode cX8_glues 35 = .ok (.iaload, 1) := by decide +kernel
theorem dX8_glues_36 : decode cX8_glues 36 = .ok (.iload_n 3, 1) := by decide +kernel
theorem dX8_glues_37 : decode cX8_glues 37 = .ok (.if_icmp .ne 12, 3) := by decide +kernel
theorem dX8_glues_40 : decode cX8_glues 40 = .ok (.aload_n 0, 1) := by decide +kernel
theorem dX8_glues_41 : decode cX8_glues 41 = .ok (.getfield 84, 3) := by decide +kernel
theorem dX8_glues_44 : decode cX8_glues 44 = .ok (.iload 5, 2) := by decide +kernel
theorem dX8_glues_46 : decode cX8_glues 46 = .ok (.iload 4, 2) := by decide +kernel
theorem dX8_glues_48 : decode cX8_glues 48 = .ok (.iastore, 1) := by decide +kernel
theorem dX8_glues_49 : decode cX8_glues 49 = .ok (.iinc 5 1, 3) := by decide +kernel
theorem dX8_glues_52 : decode cX8_glues 52 = .ok (.goto (-34), 3) := by decide +kernel
theorem dX8_glues_55 : decode cX8_glues 55 = .ok (.return_, 1) := by decide +kernel
theorem dX8_placeOf_0 : decode cX8_placeOf 0 = .ok (.iconst 0, 1) := by decide +kernel
theorem dX8_placeOf_1 : decode cX8_placeOf 1 = .ok (.istore_n 3, 1) := by decide +kernel
theorem dX8_placeOf_2 : decode cX8_placeOf 2 = .ok (.aload_n 1, 1) := by decide +kernel
theorem dX8_placeOf_3 : decode cX8_placeOf 3 = .ok (.iload_n 3, 1) := by decide +kernel
theorem dX8_placeOf_4 : decode cX8_placeOf 4 = .ok (.iaload, 1) := by decide +kernel
theorem dX8_placeOf_5 : decode cX8_placeOf 5 = .ok (.iload_n 2, 1) := by decide +kernel
theorem dX8_placeOf_6 : decode cX8_placeOf 6 = .ok (.if_icmp .eq 9, 3) := by decide +kernel
theorem dX8_placeOf_9 : decode cX8_placeOf 9 = .ok (.iinc 3 1, 3) := by decide +kernel
theorem dX8_placeOf_12 : decode cX8_placeOf 12 = .ok (.goto (-10), 3) := by decide +kernel
theorem dX8_placeOf_15 : decode cX8_placeOf 15 = .ok (.iload_n 3, 1) := by decide +kernel
theorem dX8_placeOf_16 : decode cX8_placeOf 16 = .ok (.ireturn, 1) := by decide +kernel
theorem dX8_ground_0 : decode cX8_ground 0 = .ok (.aload_n 0, 1) := by decide +kernel
theorem dX8_ground_1 : decode cX8_ground 1 = .ok (.getfield 94, 3) := by decide +kernel
theorem dX8_ground_4 : decode cX8_ground 4 = .ok (.ifCond .eq 12, 3) := by decide +kernel
theorem dX8_ground_7 : decode cX8_ground 7 = .ok (.iload_n 1, 1) := by decide +kernel
theorem dX8_ground_8 : decode cX8_ground 8 = .ok (.ifCond .lt 8, 3) := by decide +kernel
theorem dX8_ground_11 : decode cX8_ground 11 = .ok (.iload_n 1, 1) := by decide +kernel
theorem dX8_ground_12 : decode cX8_ground 12 = .ok (.iconst 3, 1) := by decide +kernel
theorem dX8_ground_13 : decode cX8_ground 13 = .ok (.if_icmp .le 5, 3) := by decide +kernel
theorem dX8_ground_16 : decode cX8_ground 16 = .ok (.iconst (-1), 1) := by decide +kernel
theorem dX8_ground_17 : decode cX8_ground 17 = .ok (.ireturn, 1) := by decide +kernel
theorem dX8_ground_18 : decode cX8_ground 18 = .ok (.iconst 0, 1) := by decide +kernel
theorem dX8_ground_19 : decode cX8_ground 19 = .ok (.istore_n 2, 1) := by decide +kernel
theorem dX8_ground_20 : decode cX8_ground 20 = .ok (.iload_n 2, 1) := by decide +kernel
theorem dX8_ground_21 : decode cX8_ground 21 = .ok (.iconst 2, 1) := by decide +kernel
theorem dX8_ground_22 : decode cX8_ground 22 = .ok (.aload_n 0, 1) := by decide +kernel
theorem dX8_ground_23 : decode cX8_ground 23 = .ok (.getfield 94, 3) := by decide +kernel
theorem dX8_ground_26 : decode cX8_ground 26 = .ok (.imul, 1) := by decide +kernel
theorem dX8_ground_27 : decode cX8_ground 27 = .ok (.if_icmp .ge 16, 3) := by decide +kernel
theorem dX8_ground_30 : decode cX8_ground 30 = .ok (.aload_n 0, 1) := by decide +kernel
theorem dX8_ground_31 : decode cX8_ground 31 = .ok (.getfield 84, 3) := by decide +kernel
theorem dX8_ground_34 : decode cX8_ground 34 = .ok (.iload_n 2, 1) := by decide +kernel
theorem dX8_ground_35 : decode cX8_ground 35 = .ok (.iload_n 2, 1) := by decide +kernel
theorem dX8_ground_36 : decode cX8_ground 36 = .ok (.iastore, 1) := by decide +kernel
theorem dX8_ground_37 : decode cX8_ground 37 = .ok (.iinc 2 1, 3) := by decide +kernel
theorem dX8_ground_40 : decode cX8_ground 40 = .ok (.goto (-20), 3) := by decide +kernel
theorem dX8_ground_43 : decode cX8_ground 43 = .ok (.iconst 0, 1) := by decide +kernel
theorem dX8_ground_44 : decode cX8_ground 44 = .ok (.istore_n 2, 1) := by decide +kernel
theorem dX8_ground_45 : decode cX8_ground 45 = .ok (.iload_n 2, 1) := by decide +kernel
theorem dX8_ground_46 : decode cX8_ground 46 = .ok (.aload_n 0, 1) := by decide +kernel
theorem dX8_ground_47 : decode cX8_ground 47 = .ok (.getfield 94, 3) := by decide +kernel
theorem dX8_ground_50 : decode cX8_ground 50 = .ok (.if_icmp .ge 68, 3) := by decide +kernel
theorem dX8_ground_53 : decode cX8_ground 53 = .ok (.aload_n 0, 1) := by decide +kernel
theorem dX8_ground_54 : decode cX8_ground 54 = .ok (.aload_n 0, 1) := by decide +kernel
theorem dX8_ground_55 : decode cX8_ground 55 = .ok (.getfield 26, 3) := by decide +kernel
theorem dX8_ground_58 : decode cX8_ground 58 = .ok (.iload_n 2, 1) := by decide +kernel
theorem dX8_ground_59 : decode cX8_ground 59 = .ok (.invokevirtual 212, 3) := by decide +kernel
theorem dX8_ground_62 : decode cX8_ground 62 = .ok (.istore_n 3, 1) := by decide +kernel
theorem dX8_ground_63 : decode cX8_ground 63 = .ok (.aload_n 0, 1) := by decide +kernel
theorem dX8_ground_64 : decode cX8_ground 64 = .ok (.aload_n 0, 1) := by decide +kernel
theorem dX8_ground_65 : decode cX8_ground 65 = .ok (.getfield 29, 3) := by decide +kernel
theorem dX8_ground_68 : decode cX8_ground 68 = .ok (.iload_n 2, 1) := by decide +kernel
theorem dX8_ground_69 : decode cX8_ground 69 = .ok (.invokevirtual 212, 3) := by decide +kernel
theorem dX8_ground_72 : decode cX8_ground 72 = .ok (.istore 4, 2) := by decide +kernel
theorem dX8_ground_74 : decode cX8_ground 74 = .ok (.aload_n 0, 1) := by decide +kernel
theorem dX8_ground_75 : decode cX8_ground 75 = .ok (.aload_n 0, 1) := by decide +kernel
theorem dX8_ground_76 : decode cX8_ground 76 = .ok (.iconst 0, 1) := by decide +kernel
theorem dX8_ground_77 : decode cX8_ground 77 = .ok (.iload_n 3, 1) := by decide +kernel
theorem dX8_ground_78 : decode cX8_ground 78 = .ok (.invokevirtual 216, 3) := by decide +kernel
theorem dX8_ground_81 : decode cX8_ground 81 = .ok (.aload_n 0, 1) := by decide +kernel
theorem dX8_ground_82 : decode cX8_ground 82 = .ok (.iconst 1, 1) := by decide +kernel
theorem dX8_ground_83 : decode cX8_ground 83 = .ok (.iload 4, 2) := by decide +kernel
theorem dX8_ground_85 : decode cX8_ground 85 = .ok (.invokevirtual 216, 3) := by decide +kernel
theorem dX8_ground_88 : decode cX8_ground 88 = .ok (.invokevirtual 220, 3) := by decide +kernel
theorem dX8_ground_91 : decode cX8_ground 91 = .ok (.aload_n 0, 1) := by decide +kernel
theorem dX8_ground_92 : decode cX8_ground 92 = .ok (.aload_n 0, 1) := by decide +kernel
theorem dX8_ground_93 : decode cX8_ground 93 = .ok (.iconst 0, 1) := by decide +kernel
theorem dX8_ground_94 : decode cX8_ground 94 = .ok (.iload_n 3, 1) := by decide +kernel
theorem dX8_ground_95 : decode cX8_ground 95 = .ok (.iconst 1, 1) := by decide +kernel
theorem dX8_ground_96 : decode cX8_ground 96 = .ok (.iadd, 1) := by decide +kernel
theorem dX8_ground_97 : decode cX8_ground 97 = .ok (.invokevirtual 216, 3) := by decide +kernel
theorem dX8_ground_100 : decode cX8_ground 100 = .ok (.aload_n 0, 1) := by decide +kernel
theorem dX8_ground_101 : decode cX8_ground 101 = .ok (.iconst 1, 1) := by decide +kernel
theorem dX8_ground_102 : decode cX8_ground 102 = .ok (.iload 4, 2) := by decide +kernel
theorem dX8_ground_104 : decode cX8_ground 104 = .ok (.iconst 1, 1) := by decide +kernel
theorem dX8_ground_105 : decode cX8_ground 105 = .ok (.iadd, 1) := by decide +kernel
theorem dX8_ground_106 : decode cX8_ground 106 = .ok (.invokevirtual 216, 3) := by decide +kernel
theorem dX8_ground_109 : decode cX8_ground 109 = .ok (.invokevirtual 220, 3) := by decide +kernel
theorem dX8_ground_112 : decode cX8_ground 112 = .ok (.iinc 2 1, 3) := by decide +kernel
theorem dX8_ground_115 : decode cX8_ground 115 = .ok (.goto (-70), 3) := by decide +kernel
theorem dX8_ground_118 : decode cX8_ground 118 = .ok (.iconst 0, 1) := by decide +kernel
theorem dX8_ground_119 : decode cX8_ground 119 = .ok (.istore_n 2, 1) := by decide +kernel
theorem dX8_ground_120 : decode cX8_ground 120 = .ok (.iconst 0, 1) := by decide +kernel
theorem dX8_ground_121 : decode cX8_ground 121 = .ok (.istore_n 3, 1) := by decide +kernel
theorem dX8_ground_122 : decode cX8_ground 122 = .ok (.iconst 0, 1) := by decide +kernel
theorem dX8_ground_123 : decode cX8_ground 123 = .ok (.istore 4, 2) := by decide +kernel
theorem dX8_ground_125 : decode cX8_ground 125 = .ok (.iconst 0, 1) := by decide +kernel
theorem dX8_ground_126 : decode cX8_ground 126 = .ok (.istore 5, 2) := by decide +kernel
theorem dX8_ground_128 : decode cX8_ground 128 = .ok (.iload 5, 2) := by decide +kernel
theorem dX8_ground_130 : decode cX8_ground 130 = .ok (.iconst 2, 1) := by decide +kernel
theorem dX8_ground_131 : decode cX8_ground 131 = .ok (.aload_n 0, 1) := by decide +kernel
theorem dX8_ground_132 : decode cX8_ground 132 = .ok (.getfield 94, 3) := by decide +kernel
theorem dX8_ground_135 : decode cX8_ground 135 = .ok (.imul, 1) := by decide +kernel
theorem dX8_ground_136 : decode cX8_ground 136 = .ok (.if_icmp .ge 99, 3) := by decide +kernel
theorem dX8_ground_139 : decode cX8_ground 139 = .ok (.iconst 0, 1) := by decide +kernel
theorem dX8_ground_140 : decode cX8_ground 140 = .ok (.istore 6, 2) := by decide +kernel
theorem dX8_ground_142 : decode cX8_ground 142 = .ok (.iconst 0, 1) := by decide +kernel
theorem dX8_ground_143 : decode cX8_ground 143 = .ok (.istore 7, 2) := by decide +kernel
theorem dX8_ground_145 : decode cX8_ground 145 = .ok (.iconst 0, 1) := by decide +kernel
theorem dX8_ground_146 : decode cX8_ground 146 = .ok (.istore 8, 2) := by decide +kernel
theorem dX8_ground_148 : decode cX8_ground 148 = .ok (.iload 8, 2) := by decide +kernel
theorem dX8_ground_150 : decode cX8_ground 150 = .ok (.iconst 2, 1) := by decide +kernel
theorem dX8_ground_151 : decode cX8_ground 151 = .ok (.aload_n 0, 1) := by decide +kernel
theorem dX8_ground_152 : decode cX8_ground 152 = .ok (.getfield 94, 3) := by decide +kernel
theorem dX8_ground_155 : decode cX8_ground 155 = .ok (.imul, 1) := by decide +kernel
theorem dX8_ground_156 : decode cX8_ground 156 = .ok (.if_icmp .ge 44, 3) := by decide +kernel
theorem dX8_ground_159 : decode cX8_ground 159 = .ok (.aload_n 0, 1) := by decide +kernel
theorem dX8_ground_160 : decode cX8_ground 160 = .ok (.getfield 84, 3) := by decide +kernel
theorem dX8_ground_163 : decode cX8_ground 163 = .ok (.iload 8, 2) := by decide +kernel
theorem dX8_ground_165 : decode cX8_ground 165 = .ok (.iaload, 1) := by decide +kernel
theorem dX8_ground_166 : decode cX8_ground 166 = .ok (.iload 5, 2) := by decide +kernel
theorem dX8_ground_168 : decode cX8_ground 168 = .ok (.if_icmp .eq 6, 3) := by decide +kernel
theorem dX8_ground_171 : decode cX8_ground 171 = .ok (.goto 23, 3) := by decide +kernel
theorem dX8_ground_174 : decode cX8_ground 174 = .ok (.iconst 1, 1) := by decide +kernel
theorem dX8_ground_175 : decode cX8_ground 175 = .ok (.istore 6, 2) := by decide +kernel
theorem dX8_ground_177 : decode cX8_ground 177 = .ok (.iload 8, 2) := by decide +kernel
theorem dX8_ground_179 : decode cX8_ground 179 = .ok (.ifCond .le 15, 3) := by decide +kernel
theorem dX8_ground_182 : decode cX8_ground 182 = .ok (.iload 8, 2) := by decide +kernel
theorem dX8_ground_184 : decode cX8_ground 184 = .ok (.aload_n 0, 1) := by decide +kernel
theorem dX8_ground_185 : decode cX8_ground 185 = .ok (.getfield 94, 3) := by decide +kernel
theorem dX8_ground_188 : decode cX8_ground 188 = .ok (.if_icmp .ge 6, 3) := by decide +kernel
theorem dX8_ground_191 : decode cX8_ground 191 = .ok (.iinc 7 1, 3) := by decide +kernel
theorem dX8_ground_194 : decode cX8_ground 194 = .ok (.iinc 8 1, 3) := by decide +kernel
theorem dX8_ground_197 : decode cX8_ground 197 = .ok (.goto (-49), 3) := by decide +kernel
theorem dX8_ground_200 : decode cX8_ground 200 = .ok (.iload 6, 2) := by decide +kernel
theorem dX8_ground_202 : decode cX8_ground 202 = .ok (.ifCond .ne 6, 3) := by decide +kernel
theorem dX8_ground_205 : decode cX8_ground 205 = .ok (.goto 24, 3) := by decide +kernel
theorem dX8_ground_208 : decode cX8_ground 208 = .ok (.iinc 2 1, 3) := by decide +kernel
theorem dX8_ground_211 : decode cX8_ground 211 = .ok (.iload 7, 2) := by decide +kernel
theorem dX8_ground_213 : decode cX8_ground 213 = .ok (.iload_n 3, 1) := by decide +kernel
theorem dX8_ground_214 : decode cX8_ground 214 = .ok (.if_icmp .le 6, 3) := by decide +kernel
theorem dX8_ground_217 : decode cX8_ground 217 = .ok (.iload 7, 2) := by decide +kernel
theorem dX8_ground_219 : decode cX8_ground 219 = .ok (.istore_n 3, 1) := by decide +kernel
theorem dX8_ground_220 : decode cX8_ground 220 = .ok (.iload 7, 2) := by decide +kernel
theorem dX8_ground_222 : decode cX8_ground 222 = .ok (.iconst 1, 1) := by decide +kernel
theorem dX8_ground_223 : decode cX8_ground 223 = .ok (.if_icmp .ne 6, 3) := by decide +kernel
theorem dX8_ground_226 : decode cX8_ground 226 = .ok (.iinc 4 1, 3) := by decide +kernel
theorem dX8_ground_229 : decode cX8_ground 229 = .ok (.iinc 5 1, 3) := by decide +kernel
theorem dX8_ground_232 : decode cX8_ground 232 = .ok (.goto (-104), 3) := by decide +kernel
theorem dX8_ground_235 : decode cX8_ground 235 = .ok (.iload_n 1, 1) := by decide +kernel
theorem dX8_ground_236 : decode cX8_ground 236 = .ok (.ifCond .ne 7, 3) := by decide +kernel
theorem dX8_ground_239 : decode cX8_ground 239 = .ok (.iload_n 2, 1) := by decide +kernel
theorem dX8_ground_240 : decode cX8_ground 240 = .ok (.goto 32, 3) := by decide +kernel
theorem dX8_ground_243 : decode cX8_ground 243 = .ok (.iload_n 1, 1) := by decide +kernel
theorem dX8_ground_244 : decode cX8_ground 244 = .ok (.iconst 1, 1) := by decide +kernel
theorem dX8_ground_245 : decode cX8_ground 245 = .ok (.if_icmp .ne 16, 3) := by decide +kernel
theorem dX8_ground_248 : decode cX8_ground 248 = .ok (.iconst 1, 1) := by decide +kernel
theorem dX8_ground_249 : decode cX8_ground 249 = .ok (.aload_n 0, 1) := by decide +kernel
theorem dX8_ground_250 : decode cX8_ground 250 = .ok (.getfield 94, 3) := by decide +kernel
theorem dX8_ground_253 : decode cX8_ground 253 = .ok (.iadd, 1) := by decide +kernel
theorem dX8_ground_254 : decode cX8_ground 254 = .ok (.iload_n 2, 1) := by decide +kernel
theorem dX8_ground_255 : decode cX8_ground 255 = .ok (.isub, 1) := by decide +kernel
theorem dX8_ground_256 : decode cX8_ground 256 = .ok (.iconst 2, 1) := by decide +kernel
theorem dX8_ground_257 : decode cX8_ground 257 = .ok (.idiv, 1) := by decide +kernel
theorem dX8_ground_258 : decode cX8_ground 258 = .ok (.goto 14, 3) := by decide +kernel
theorem dX8_ground_261 : decode cX8_ground 261 = .ok (.iload_n 1, 1) := by decide +kernel
theorem dX8_ground_262 : decode cX8_ground 262 = .ok (.iconst 2, 1) := by decide +kernel
theorem dX8_ground_263 : decode cX8_ground 263 = .ok (.if_icmp .ne 7, 3) := by decide +kernel
theorem dX8_ground_266 : decode cX8_ground 266 = .ok (.iload_n 3, 1) := by decide +kernel
theorem dX8_ground_267 : decode cX8_ground 267 = .ok (.goto 5, 3) := by decide +kernel
theorem dX8_ground_270 : decode cX8_ground 270 = .ok (.iload 4, 2) := by decide +kernel
theorem dX8_ground_272 : decode cX8_ground 272 = .ok (.ireturn, 1) := by decide +kernel
theorem dL_law_0 : decode cL_law 0 = .ok (.new 7, 3) := by decide +kernel
theorem dL_law_3 : decode cL_law 3 = .ok (.dup, 1) := by decide +kernel
theorem dL_law_4 : decode cL_law 4 = .ok (.invokespecial 9, 3) := by decide +kernel
theorem dL_law_7 : decode cL_law 7 = .ok (.astore_n 1, 1) := by decide +kernel
theorem dL_law_8 : decode cL_law 8 = .ok (.new 10, 3) := by decide +kernel
theorem dL_law_11 : decode cL_law 11 = .ok (.dup, 1) := by decide +kernel
theorem dL_law_12 : decode cL_law 12 = .ok (.invokespecial 12, 3) := by decide +kernel
theorem dL_law_15 : decode cL_law 15 = .ok (.astore_n 2, 1) := by decide +kernel
theorem dL_law_16 : decode cL_law 16 = .ok (.iconst 0, 1) := by decide +kernel
theorem dL_law_17 : decode cL_law 17 = .ok (.istore_n 3, 1) := by decide +kernel
theorem dL_law_18 : decode cL_law 18 = .ok (.iload_n 3, 1) := by decide +kernel
theorem dL_law_19 : decode cL_law 19 = .ok (.aload_n 0, 1) := by decide +kernel
theorem dL_law_20 : decode cL_law 20 = .ok (.arraylength, 1) := by decide +kernel
theorem dL_law_21 : decode cL_law 21 = .ok (.iconst 4, 1) := by decide +kernel
theorem dL_law_22 : decode cL_law 22 = .ok (.isub, 1) := by decide +kernel
theorem dL_law_23 : decode cL_law 23 = .ok (.if_icmp .gt 651, 3) := by decide +kernel
theorem dL_law_26 : decode cL_law 26 = .ok (.aload_n 0, 1) := by decide +kernel
theorem dL_law_27 : decode cL_law 27 = .ok (.iload_n 3, 1) := by decide +kernel
theorem dL_law_28 : decode cL_law 28 = .ok (.iaload, 1) := by decide +kernel
theorem dL_law_29 : decode cL_law 29 = .ok (.bipush 31, 2) := by decide +kernel
theorem dL_law_31 : decode cL_law 31 = .ok (.iand, 1) := by decide +kernel
theorem dL_law_32 : decode cL_law 32 = .ok (.tableswitch 636 0 20 #[100, 123, 166, 199, 212, 235, 269, 302, 335, 358, 382, 415, 448, 461, 484, 518, 531, 544, 577, 600, 613], 100) := by decide +kernel
theorem dL_law_132 : decode cL_law 132 = .ok (.aload_n 1, 1) := by decide +kernel
theorem dL_law_133 : decode cL_law 133 = .ok (.aload_n 0, 1) := by decide +kernel
theorem dL_law_134 : decode cL_law 134 = .ok (.iload_n 3, 1) := by decide +kernel
theorem dL_law_135 : decode cL_law 135 = .ok (.iconst 1, 1) := by decide +kernel
theorem dL_law_136 : decode cL_law 136 = .ok (.iadd, 1) := by decide +kernel
theorem dL_law_137 : decode cL_law 137 = .ok (.iaload, 1) := by decide +kernel
theorem dL_law_138 : decode cL_law 138 = .ok (.invokevirtual 13, 3) := by decide +kernel
theorem dL_law_141 : decode cL_law 141 = .ok (.aload_n 2, 1) := by decide +kernel
theorem dL_law_142 : decode cL_law 142 = .ok (.aload_n 0, 1) := by decide +kernel
theorem dL_law_143 : decode cL_law 143 = .ok (.iload_n 3, 1) := by decide +kernel
theorem dL_law_144 : decode cL_law 144 = .ok (.iconst 1, 1) := by decide +kernel
theorem dL_law_145 : decode cL_law 145 = .ok (.iadd, 1) := by decide +kernel
theorem dL_law_146 : decode cL_law 146 = .ok (.iaload, 1) := by decide +kernel
theorem dL_law_147 : decode cL_law 147 = .ok (.invokevirtual 17, 3) := by decide +kernel
theorem dL_law_150 : decode cL_law 150 = .ok (.if_icmp .eq 518, 3) := by decide +kernel
theorem dL_law_153 : decode cL_law 153 = .ok (.iconst 0, 1) := by decide +kernel
theorem dL_law_154 : decode cL_law 154 = .ok (.ireturn, 1) := by decide +kernel
theorem dL_law_155 : decode cL_law 155 = .ok (.aload_n 1, 1) := by decide +kernel
theorem dL_law_156 : decode cL_law 156 = .ok (.aload_n 0, 1) := by decide +kernel
theorem dL_law_157 : decode cL_law 157 = .ok (.iload_n 3, 1) := by decide +kernel
theorem dL_law_158 : decode cL_law 158 = .ok (.iconst 1, 1) := by decide +kernel
theorem dL_law_159 : decode cL_law 159 = .ok (.iadd, 1) := by decide +kernel
theorem dL_law_160 : decode cL_law 160 = .ok (.iaload, 1) := by decide +kernel
theorem dL_law_161 : decode cL_law 161 = .ok (.aload_n 0, 1) := by decide +kernel
theorem dL_law_162 : decode cL_law 162 = .ok (.iload_n 3, 1) := by decide +kernel
theorem dL_law_163 : decode cL_law 163 = .ok (.iconst 2, 1) := by decide +kernel
theorem dL_law_164 : decode cL_law 164 = .ok (.iadd, 1) := by decide +kernel
theorem dL_law_165 : decode cL_law 165 = .ok (.iaload, 1) := by decide +kernel
theorem dL_law_166 : decode cL_law 166 = .ok (.aload_n 0, 1) := by decide +kernel
theorem dL_law_167 : decode cL_law 167 = .ok (.iload_n 3, 1) := by decide +kernel
theorem dL_law_168 : decode cL_law 168 = .ok (.iconst 3, 1) := by decide +kernel
theorem dL_law_169 : decode cL_law 169 = .ok (.iadd, 1) := by decide +kernel
theorem dL_law_170 : decode cL_law 170 = .ok (.iaload, 1) := by decide +kernel
theorem dL_law_171 : decode cL_law 171 = .ok (.invokevirtual 18, 3) := by decide +kernel
theorem dL_law_174 : decode cL_law 174 = .ok (.aload_n 2, 1) := by decide +kernel
theorem dL_law_175 : decode cL_law 175 = .ok (.aload_n 0, 1) := by decide +kernel
theorem dL_law_176 : decode cL_law 176 = .ok (.iload_n 3, 1) := by decide +kernel
theorem dL_law_177 : decode cL_law 177 = .ok (.iconst 1, 1) := by decide +kernel
theorem dL_law_178 : decode cL_law 178 = .ok (.iadd, 1) := by decide +kernel
theorem dL_law_179 : decode cL_law 179 = .ok (.iaload, 1) := by decide +kernel
theorem dL_law_180 : decode cL_law 180 = .ok (.aload_n 0, 1) := by decide +kernel
theorem dL_law_181 : decode cL_law 181 = .ok (.iload_n 3, 1) := by decide +kernel
theorem dL_law_182 : decode cL_law 182 = .ok (.iconst 2, 1) := by decide +kernel
theorem dL_law_183 : decode cL_law 183 = .ok (.iadd, 1) := by decide +kernel
theorem dL_law_184 : decode cL_law 184 = .ok (.iaload, 1) := by decide +kernel
theorem dL_law_185 : decode cL_law 185 = .ok (.aload_n 0, 1) := by decide +kernel
theorem dL_law_186 : decode cL_law 186 = .ok (.iload_n 3, 1) := by decide +kernel
theorem dL_law_187 : decode cL_law 187 = .ok (.iconst 3, 1) := by decide +kernel
theorem dL_law_188 : decode cL_law 188 = .ok (.iadd, 1) := by decide +kernel
theorem dL_law_189 : decode cL_law 189 = .ok (.iaload, 1) := by decide +kernel
theorem dL_law_190 : decode cL_law 190 = .ok (.invokevirtual 22, 3) := by decide +kernel
theorem dL_law_193 : decode cL_law 193 = .ok (.if_icmp .eq 475, 3) := by decide +kernel
theorem dL_law_196 : decode cL_law 196 = .ok (.iconst 0, 1) := by decide +kernel
theorem dL_law_197 : decode cL_law 197 = .ok (.ireturn, 1) := by decide +kernel
theorem dL_law_198 : decode cL_law 198 = .ok (.aload_n 1, 1) := by decide +kernel
theorem dL_law_199 : decode cL_law 199 = .ok (.aload_n 0, 1) := by decide +kernel
theorem dL_law_200 : decode cL_law 200 = .ok (.iload_n 3, 1) := by decide +kernel
theorem dL_law_201 : decode cL_law 201 = .ok (.iconst 1, 1) := by decide +kernel
theorem dL_law_202 : decode cL_law 202 = .ok (.iadd, 1) := by decide +kernel
theorem dL_law_203 : decode cL_law 203 = .ok (.iaload, 1) := by decide +kernel
theorem dL_law_204 : decode cL_law 204 = .ok (.aload_n 0, 1) := by decide +kernel
theorem dL_law_205 : decode cL_law 205 = .ok (.iload_n 3, 1) := by decide +kernel
theorem dL_law_206 : decode cL_law 206 = .ok (.iconst 2, 1) := by decide +kernel
theorem dL_law_207 : decode cL_law 207 = .ok (.iadd, 1) := by decide +kernel
theorem dL_law_208 : decode cL_law 208 = .ok (.iaload, 1) := by decide +kernel
theorem dL_law_209 : decode cL_law 209 = .ok (.invokevirtual 23, 3) := by decide +kernel
theorem dL_law_212 : decode cL_law 212 = .ok (.aload_n 2, 1) := by decide +kernel
theorem dL_law_213 : decode cL_law 213 = .ok (.aload_n 0, 1) := by decide +kernel
theorem dL_law_214 : decode cL_law 214 = .ok (.iload_n 3, 1) := by decide +kernel
theorem dL_law_215 : decode cL_law 215 = .ok (.iconst 1, 1) := by decide +kernel
theorem dL_law_216 : decode cL_law 216 = .ok (.iadd, 1) := by decide +kernel
theorem dL_law_217 : decode cL_law 217 = .ok (.iaload, 1) := by decide +kernel
theorem dL_law_218 : decode cL_law 218 = .ok (.aload_n 0, 1) := by decide +kernel
theorem dL_law_219 : decode cL_law 219 = .ok (.iload_n 3, 1) := by decide +kernel
theorem dL_law_220 : decode cL_law 220 = .ok (.iconst 2, 1) := by decide +kernel
theorem dL_law_221 : decode cL_law 221 = .ok (.iadd, 1) := by decide +kernel
theorem dL_law_222 : decode cL_law 222 = .ok (.iaload, 1) := by decide +kernel
theorem dL_law_223 : decode cL_law 223 = .ok (.invokevirtual 27, 3) := by decide +kernel
theorem dL_law_226 : decode cL_law 226 = .ok (.if_icmp .eq 442, 3) := by decide +kernel
theorem dL_law_229 : decode cL_law 229 = .ok (.iconst 0, 1) := by decide +kernel
theorem dL_law_230 : decode cL_law 230 = .ok (.ireturn, 1) := by decide +kernel
theorem dL_law_231 : decode cL_law 231 = .ok (.aload_n 1, 1) := by decide +kernel
theorem dL_law_232 : decode cL_law 232 = .ok (.invokevirtual 28, 3) := by decide +kernel
theorem dL_law_235 : decode cL_law 235 = .ok (.aload_n 2, 1) := by decide +kernel
theorem dL_law_236 : decode cL_law 236 = .ok (.invokevirtual 32, 3) := by decide +kernel
theorem dL_law_239 : decode cL_law 239 = .ok (.if_icmp .eq 429, 3) := by decide +kernel
theorem dL_law_242 : decode cL_law 242 = .ok (.iconst 0, 1) := by decide +kernel
theorem dL_law_243 : decode cL_law 243 = .ok (.ireturn, 1) := by decide +kernel
theorem dL_law_244 : decode cL_law 244 = .ok (.aload_n 1, 1) := by decide +kernel
theorem dL_law_245 : decode cL_law 245 = .ok (.aload_n 0, 1) := by decide +kernel
theorem dL_law_246 : decode cL_law 246 = .ok (.iload_n 3, 1) := by decide +kernel
theorem dL_law_247 : decode cL_law 247 = .ok (.iconst 1, 1) := by decide +kernel
theorem dL_law_248 : decode cL_law 248 = .ok (.iadd, 1) := by decide +kernel
theorem dL_law_249 : decode cL_law 249 = .ok (.iaload, 1) := by decide +kernel
theorem dL_law_250 : decode cL_law 250 = .ok (.invokevirtual 33, 3) := by decide +kernel
theorem dL_law_253 : decode cL_law 253 = .ok (.aload_n 2, 1) := by decide +kernel
theorem dL_law_254 : decode cL_law 254 = .ok (.aload_n 0, 1) := by decide +kernel
theorem dL_law_255 : decode cL_law 255 = .ok (.iload_n 3, 1) := by decide +kernel
theorem dL_law_256 : decode cL_law 256 = .ok (.iconst 1, 1) := by decide +kernel
theorem dL_law_257 : decode cL_law 257 = .ok (.iadd, 1) := by decide +kernel
theorem dL_law_258 : decode cL_law 258 = .ok (.iaload, 1) := by decide +kernel
theorem dL_law_259 : decode cL_law 259 = .ok (.invokevirtual 37, 3) := by decide +kernel
theorem dL_law_262 : decode cL_law 262 = .ok (.if_icmp .eq 406, 3) := by decide +kernel
theorem dL_law_265 : decode cL_law 265 = .ok (.iconst 0, 1) := by decide +kernel
theorem dL_law_266 : decode cL_law 266 = .ok (.ireturn, 1) := by decide +kernel
theorem dL_law_267 : decode cL_law 267 = .ok (.aload_n 1, 1) := by decide +kernel
theorem dL_law_268 : decode cL_law 268 = .ok (.aload_n 0, 1) := by decide +kernel
theorem dL_law_269 : decode cL_law 269 = .ok (.iload_n 3, 1) := by decide +kernel
theorem dL_law_270 : decode cL_law 270 = .ok (.iconst 1, 1) := by decide +kernel
theorem dL_law_271 : decode cL_law 271 = .ok (.iadd, 1) := by decide +kernel
theorem dL_law_272 : decode cL_law 272 = .ok (.iaload, 1) := by decide +kernel
theorem dL_law_273 : decode cL_law 273 = .ok (.aload_n 0, 1) := by decide +kernel
theorem dL_law_274 : decode cL_law 274 = .ok (.iload_n 3, 1) := by decide +kernel
theorem dL_law_275 : decode cL_law 275 = .ok (.iconst 2, 1) := by decide +kernel
theorem dL_law_276 : decode cL_law 276 = .ok (.iadd, 1) := by decide +kernel
theorem dL_law_277 : decode cL_law 277 = .ok (.iaload, 1) := by decide +kernel
theorem dL_law_278 : decode cL_law 278 = .ok (.invokevirtual 38, 3) := by decide +kernel
theorem dL_law_281 : decode cL_law 281 = .ok (.aload_n 2, 1) := by decide +kernel
theorem dL_law_282 : decode cL_law 282 = .ok (.aload_n 0, 1) := by decide +kernel
theorem dL_law_283 : decode cL_law 283 = .ok (.iload_n 3, 1) := by decide +kernel
theorem dL_law_284 : decode cL_law 284 = .ok (.iconst 1, 1) := by decide +kernel
theorem dL_law_285 : decode cL_law 285 = .ok (.iadd, 1) := by decide +kernel
theorem dL_law_286 : decode cL_law 286 = .ok (.iaload, 1) := by decide +kernel
theorem dL_law_287 : decode cL_law 287 = .ok (.aload_n 0, 1) := by decide +kernel
theorem dL_law_288 : decode cL_law 288 = .ok (.iload_n 3, 1) := by decide +kernel
theorem dL_law_289 : decode cL_law 289 = .ok (.iconst 2, 1) := by decide +kernel
theorem dL_law_290 : decode cL_law 290 = .ok (.iadd, 1) := by decide +kernel
theorem dL_law_291 : decode cL_law 291 = .ok (.iaload, 1) := by decide +kernel
theorem dL_law_292 : decode cL_law 292 = .ok (.invokevirtual 42, 3) := by decide +kernel
theorem dL_law_295 : decode cL_law 295 = .ok (.lcmp, 1) := by decide +kernel
theorem dL_law_296 : decode cL_law 296 = .ok (.ifCond .eq 372, 3) := by decide +kernel
theorem dL_law_299 : decode cL_law 299 = .ok (.iconst 0, 1) := by decide +kernel
theorem dL_law_300 : decode cL_law 300 = .ok (.ireturn, 1) := by decide +kernel
theorem dL_law_301 : decode cL_law 301 = .ok (.aload_n 1, 1) := by decide +kernel
theorem dL_law_302 : decode cL_law 302 = .ok (.aload_n 0, 1) := by decide +kernel
theorem dL_law_303 : decode cL_law 303 = .ok (.iload_n 3, 1) := by decide +kernel
theorem dL_law_304 : decode cL_law 304 = .ok (.iconst 1, 1) := by decide +kernel
theorem dL_law_305 : decode cL_law 305 = .ok (.iadd, 1) := by decide +kernel
theorem dL_law_306 : decode cL_law 306 = .ok (.iaload, 1) := by decide +kernel
theorem dL_law_307 : decode cL_law 307 = .ok (.aload_n 0, 1) := by decide +kernel
theorem dL_law_308 : decode cL_law 308 = .ok (.iload_n 3, 1) := by decide +kernel
theorem dL_law_309 : decode cL_law 309 = .ok (.iconst 2, 1) := by decide +kernel
theorem dL_law_310 : decode cL_law 310 = .ok (.iadd, 1) := by decide +kernel
theorem dL_law_311 : decode cL_law 311 = .ok (.iaload, 1) := by decide +kernel
theorem dL_law_312 : decode cL_law 312 = .ok (.invokevirtual 43, 3) := by decide +kernel
theorem dL_law_315 : decode cL_law 315 = .ok (.aload_n 2, 1) := by decide +kernel
theorem dL_law_316 : decode cL_law 316 = .ok (.aload_n 0, 1) := by decide +kernel
theorem dL_law_317 : decode cL_law 317 = .ok (.iload_n 3, 1) := by decide +kernel
theorem dL_law_318 : decode cL_law 318 = .ok (.iconst 1, 1) := by decide +kernel
theorem dL_law_319 : decode cL_law 319 = .ok (.iadd, 1) := by decide +kernel
theorem dL_law_320 : decode cL_law 320 = .ok (.iaload, 1) := by decide +kernel
theorem dL_law_321 : decode cL_law 321 = .ok (.aload_n 0, 1) := by decide +kernel
theorem dL_law_322 : decode cL_law 322 = .ok (.iload_n 3, 1) := by decide +kernel
theorem dL_law_323 : decode cL_law 323 = .ok (.iconst 2, 1) := by decide +kernel
theorem dL_law_324 : decode cL_law 324 = .ok (.iadd, 1) := by decide +kernel
theorem dL_law_325 : decode cL_law 325 = .ok (.iaload, 1) := by decide +kernel
theorem dL_law_326 : decode cL_law 326 = .ok (.invokevirtual 47, 3) := by decide +kernel
theorem dL_law_329 : decode cL_law 329 = .ok (.if_icmp .eq 339, 3) := by decide +kernel
theorem dL_law_332 : decode cL_law 332 = .ok (.iconst 0, 1) := by decide +kernel
theorem dL_law_333 : decode cL_law 333 = .ok (.ireturn, 1) := by decide +kernel
theorem dL_law_334 : decode cL_law 334 = .ok (.aload_n 1, 1) := by decide +kernel
theorem dL_law_335 : decode cL_law 335 = .ok (.aload_n 0, 1) := by decide +kernel
theorem dL_law_336 : decode cL_law 336 = .ok (.iload_n 3, 1) := by decide +kernel
theorem dL_law_337 : decode cL_law 337 = .ok (.iconst 1, 1) := by decide +kernel
theorem dL_law_338 : decode cL_law 338 = .ok (.iadd, 1) := by decide +kernel
theorem dL_law_339 : decode cL_law 339 = .ok (.iaload, 1) := by decide +kernel
theorem dL_law_340 : decode cL_law 340 = .ok (.aload_n 0, 1) := by decide +kernel
theorem dL_law_341 : decode cL_law 341 = .ok (.iload_n 3, 1) := by decide +kernel
theorem dL_law_342 : decode cL_law 342 = .ok (.iconst 2, 1) := by decide +kernel
theorem dL_law_343 : decode cL_law 343 = .ok (.iadd, 1) := by decide +kernel
theorem dL_law_344 : decode cL_law 344 = .ok (.iaload, 1) := by decide +kernel
theorem dL_law_345 : decode cL_law 345 = .ok (.invokevirtual 48, 3) := by decide +kernel
theorem dL_law_348 : decode cL_law 348 = .ok (.aload_n 2, 1) := by decide +kernel
theorem dL_law_349 : decode cL_law 349 = .ok (.aload_n 0, 1) := by decide +kernel
theorem dL_law_350 : decode cL_law 350 = .ok (.iload_n 3, 1) := by decide +kernel
theorem dL_law_351 : decode cL_law 351 = .ok (.iconst 1, 1) := by decide +kernel
theorem dL_law_352 : decode cL_law 352 = .ok (.iadd, 1) := by decide +kernel
theorem dL_law_353 : decode cL_law 353 = .ok (.iaload, 1) := by decide +kernel
theorem dL_law_354 : decode cL_law 354 = .ok (.aload_n 0, 1) := by decide +kernel
theorem dL_law_355 : decode cL_law 355 = .ok (.iload_n 3, 1) := by decide +kernel
theorem dL_law_356 : decode cL_law 356 = .ok (.iconst 2, 1) := by decide +kernel
theorem dL_law_357 : decode cL_law 357 = .ok (.iadd, 1) := by decide +kernel
theorem dL_law_358 : decode cL_law 358 = .ok (.iaload, 1) := by decide +kernel
theorem dL_law_359 : decode cL_law 359 = .ok (.invokevirtual 51, 3) := by decide +kernel
theorem dL_law_362 : decode cL_law 362 = .ok (.if_icmp .eq 306, 3) := by decide +kernel
theorem dL_law_365 : decode cL_law 365 = .ok (.iconst 0, 1) := by decide +kernel
theorem dL_law_366 : decode cL_law 366 = .ok (.ireturn, 1) := by decide +kernel
theorem dL_law_367 : decode cL_law 367 = .ok (.aload_n 1, 1) := by decide +kernel
theorem dL_law_368 : decode cL_law 368 = .ok (.aload_n 0, 1) := by decide +kernel
theorem dL_law_369 : decode cL_law 369 = .ok (.iload_n 3, 1) := by decide +kernel
theorem dL_law_370 : decode cL_law 370 = .ok (.iconst 1, 1) := by decide +kernel
theorem dL_law_371 : decode cL_law 371 = .ok (.iadd, 1) := by decide +kernel
theorem dL_law_372 : decode cL_law 372 = .ok (.iaload, 1) := by decide +kernel
theorem dL_law_373 : decode cL_law 373 = .ok (.invokevirtual 52, 3) := by decide +kernel
theorem dL_law_376 : decode cL_law 376 = .ok (.aload_n 2, 1) := by decide +kernel
theorem dL_law_377 : decode cL_law 377 = .ok (.aload_n 0, 1) := by decide +kernel
theorem dL_law_378 : decode cL_law 378 = .ok (.iload_n 3, 1) := by decide +kernel
theorem dL_law_379 : decode cL_law 379 = .ok (.iconst 1, 1) := by decide +kernel
theorem dL_law_380 : decode cL_law 380 = .ok (.iadd, 1) := by decide +kernel
theorem dL_law_381 : decode cL_law 381 = .ok (.iaload, 1) := by decide +kernel
theorem dL_law_382 : decode cL_law 382 = .ok (.invokevirtual 55, 3) := by decide +kernel
theorem dL_law_385 : decode cL_law 385 = .ok (.if_icmp .eq 283, 3) := by decide +kernel
theorem dL_law_388 : decode cL_law 388 = .ok (.iconst 0, 1) := by decide +kernel
theorem dL_law_389 : decode cL_law 389 = .ok (.ireturn, 1) := by decide +kernel
theorem dL_law_390 : decode cL_law 390 = .ok (.aload_n 1, 1) := by decide +kernel
theorem dL_law_391 : decode cL_law 391 = .ok (.aload_n 0, 1) := by decide +kernel
theorem dL_law_392 : decode cL_law 392 = .ok (.iload_n 3, 1) := by decide +kernel
theorem dL_law_393 : decode cL_law 393 = .ok (.iconst 1, 1) := by decide +kernel
theorem dL_law_394 : decode cL_law 394 = .ok (.iadd, 1) := by decide +kernel
theorem dL_law_395 : decode cL_law 395 = .ok (.iaload, 1) := by decide +kernel
theorem dL_law_396 : decode cL_law 396 = .ok (.invokevirtual 56, 3) := by decide +kernel
theorem dL_law_399 : decode cL_law 399 = .ok (.aload_n 2, 1) := by decide +kernel
theorem dL_law_400 : decode cL_law 400 = .ok (.aload_n 0, 1) := by decide +kernel
theorem dL_law_401 : decode cL_law 401 = .ok (.iload_n 3, 1) := by decide +kernel
theorem dL_law_402 : decode cL_law 402 = .ok (.iconst 1, 1) := by decide +kernel
theorem dL_law_403 : decode cL_law 403 = .ok (.iadd, 1) := by decide +kernel
theorem dL_law_404 : decode cL_law 404 = .ok (.iaload, 1) := by decide +kernel
theorem dL_law_405 : decode cL_law 405 = .ok (.invokevirtual 60, 3) := by decide +kernel
theorem dL_law_408 : decode cL_law 408 = .ok (.lcmp, 1) := by decide +kernel
theorem dL_law_409 : decode cL_law 409 = .ok (.ifCond .eq 259, 3) := by decide +kernel
theorem dL_law_412 : decode cL_law 412 = .ok (.iconst 0, 1) := by decide +kernel
theorem dL_law_413 : decode cL_law 413 = .ok (.ireturn, 1) := by decide +kernel
theorem dL_law_414 : decode cL_law 414 = .ok (.aload_n 1, 1) := by decide +kernel
theorem dL_law_415 : decode cL_law 415 = .ok (.aload_n 0, 1) := by decide +kernel
theorem dL_law_416 : decode cL_law 416 = .ok (.iload_n 3, 1) := by decide +kernel
theorem dL_law_417 : decode cL_law 417 = .ok (.iconst 1, 1) := by decide +kernel
theorem dL_law_418 : decode cL_law 418 = .ok (.iadd, 1) := by decide +kernel
theorem dL_law_419 : decode cL_law 419 = .ok (.iaload, 1) := by decide +kernel
theorem dL_law_420 : decode cL_law 420 = .ok (.aload_n 0, 1) := by decide +kernel
theorem dL_law_421 : decode cL_law 421 = .ok (.iload_n 3, 1) := by decide +kernel
theorem dL_law_422 : decode cL_law 422 = .ok (.iconst 2, 1) := by decide +kernel
theorem dL_law_423 : decode cL_law 423 = .ok (.iadd, 1) := by decide +kernel
theorem dL_law_424 : decode cL_law 424 = .ok (.iaload, 1) := by decide +kernel
theorem dL_law_425 : decode cL_law 425 = .ok (.invokevirtual 61, 3) := by decide +kernel
theorem dL_law_428 : decode cL_law 428 = .ok (.aload_n 2, 1) := by decide +kernel
theorem dL_law_429 : decode cL_law 429 = .ok (.aload_n 0, 1) := by decide +kernel
theorem dL_law_430 : decode cL_law 430 = .ok (.iload_n 3, 1) := by decide +kernel
theorem dL_law_431 : decode cL_law 431 = .ok (.iconst 1, 1) := by decide +kernel
theorem dL_law_432 : decode cL_law 432 = .ok (.iadd, 1) := by decide +kernel
theorem dL_law_433 : decode cL_law 433 = .ok (.iaload, 1) := by decide +kernel
theorem dL_law_434 : decode cL_law 434 = .ok (.aload_n 0, 1) := by decide +kernel
theorem dL_law_435 : decode cL_law 435 = .ok (.iload_n 3, 1) := by decide +kernel
theorem dL_law_436 : decode cL_law 436 = .ok (.iconst 2, 1) := by decide +kernel
theorem dL_law_437 : decode cL_law 437 = .ok (.iadd, 1) := by decide +kernel
theorem dL_law_438 : decode cL_law 438 = .ok (.iaload, 1) := by decide +kernel
theorem dL_law_439 : decode cL_law 439 = .ok (.invokevirtual 64, 3) := by decide +kernel
theorem dL_law_442 : decode cL_law 442 = .ok (.if_icmp .eq 226, 3) := by decide +kernel
theorem dL_law_445 : decode cL_law 445 = .ok (.iconst 0, 1) := by decide +kernel
theorem dL_law_446 : decode cL_law 446 = .ok (.ireturn, 1) := by decide +kernel
theorem dL_law_447 : decode cL_law 447 = .ok (.aload_n 1, 1) := by decide +kernel
theorem dL_law_448 : decode cL_law 448 = .ok (.aload_n 0, 1) := by decide +kernel
theorem dL_law_449 : decode cL_law 449 = .ok (.iload_n 3, 1) := by decide +kernel
theorem dL_law_450 : decode cL_law 450 = .ok (.iconst 1, 1) := by decide +kernel
theorem dL_law_451 : decode cL_law 451 = .ok (.iadd, 1) := by decide +kernel
theorem dL_law_452 : decode cL_law 452 = .ok (.iaload, 1) := by decide +kernel
theorem dL_law_453 : decode cL_law 453 = .ok (.aload_n 0, 1) := by decide +kernel
theorem dL_law_454 : decode cL_law 454 = .ok (.iload_n 3, 1) := by decide +kernel
theorem dL_law_455 : decode cL_law 455 = .ok (.iconst 2, 1) := by decide +kernel
theorem dL_law_456 : decode cL_law 456 = .ok (.iadd, 1) := by decide +kernel
theorem dL_law_457 : decode cL_law 457 = .ok (.iaload, 1) := by decide +kernel
theorem dL_law_458 : decode cL_law 458 = .ok (.invokevirtual 65, 3) := by decide +kernel
theorem dL_law_461 : decode cL_law 461 = .ok (.aload_n 2, 1) := by decide +kernel
theorem dL_law_462 : decode cL_law 462 = .ok (.aload_n 0, 1) := by decide +kernel
theorem dL_law_463 : decode cL_law 463 = .ok (.iload_n 3, 1) := by decide +kernel
theorem dL_law_464 : decode cL_law 464 = .ok (.iconst 1, 1) := by decide +kernel
theorem dL_law_465 : decode cL_law 465 = .ok (.iadd, 1) := by decide +kernel
theorem dL_law_466 : decode cL_law 466 = .ok (.iaload, 1) := by decide +kernel
theorem dL_law_467 : decode cL_law 467 = .ok (.aload_n 0, 1) := by decide +kernel
theorem dL_law_468 : decode cL_law 468 = .ok (.iload_n 3, 1) := by decide +kernel
theorem dL_law_469 : decode cL_law 469 = .ok (.iconst 2, 1) := by decide +kernel
theorem dL_law_470 : decode cL_law 470 = .ok (.iadd, 1) := by decide +kernel
theorem dL_law_471 : decode cL_law 471 = .ok (.iaload, 1) := by decide +kernel
theorem dL_law_472 : decode cL_law 472 = .ok (.invokevirtual 68, 3) := by decide +kernel
theorem dL_law_475 : decode cL_law 475 = .ok (.if_icmp .eq 193, 3) := by decide +kernel
theorem dL_law_478 : decode cL_law 478 = .ok (.iconst 0, 1) := by decide +kernel
theorem dL_law_479 : decode cL_law 479 = .ok (.ireturn, 1) := by decide +kernel
theorem dL_law_480 : decode cL_law 480 = .ok (.aload_n 1, 1) := by decide +kernel
theorem dL_law_481 : decode cL_law 481 = .ok (.invokevirtual 69, 3) := by decide +kernel
theorem dL_law_484 : decode cL_law 484 = .ok (.aload_n 2, 1) := by decide +kernel
theorem dL_law_485 : decode cL_law 485 = .ok (.invokevirtual 72, 3) := by decide +kernel
theorem dL_law_488 : decode cL_law 488 = .ok (.if_icmp .eq 180, 3) := by decide +kernel
theorem dL_law_491 : decode cL_law 491 = .ok (.iconst 0, 1) := by decide +kernel
theorem dL_law_492 : decode cL_law 492 = .ok (.ireturn, 1) := by decide +kernel
theorem dL_law_493 : decode cL_law 493 = .ok (.aload_n 1, 1) := by decide +kernel
theorem dL_law_494 : decode cL_law 494 = .ok (.aload_n 0, 1) := by decide +kernel
theorem dL_law_495 : decode cL_law 495 = .ok (.iload_n 3, 1) := by decide +kernel
theorem dL_law_496 : decode cL_law 496 = .ok (.iconst 1, 1) := by decide +kernel
theorem dL_law_497 : decode cL_law 497 = .ok (.iadd, 1) := by decide +kernel
theorem dL_law_498 : decode cL_law 498 = .ok (.iaload, 1) := by decide +kernel
theorem dL_law_499 : decode cL_law 499 = .ok (.invokevirtual 73, 3) := by decide +kernel
theorem dL_law_502 : decode cL_law 502 = .ok (.aload_n 2, 1) := by decide +kernel
theorem dL_law_503 : decode cL_law 503 = .ok (.aload_n 0, 1) := by decide +kernel
theorem dL_law_504 : decode cL_law 504 = .ok (.iload_n 3, 1) := by decide +kernel
theorem dL_law_505 : decode cL_law 505 = .ok (.iconst 1, 1) := by decide +kernel
theorem dL_law_506 : decode cL_law 506 = .ok (.iadd, 1) := by decide +kernel
theorem dL_law_507 : decode cL_law 507 = .ok (.iaload, 1) := by decide +kernel
theorem dL_law_508 : decode cL_law 508 = .ok (.invokevirtual 76, 3) := by decide +kernel
theorem dL_law_511 : decode cL_law 511 = .ok (.if_icmp .eq 157, 3) := by decide +kernel
theorem dL_law_514 : decode cL_law 514 = .ok (.iconst 0, 1) := by decide +kernel
theorem dL_law_515 : decode cL_law 515 = .ok (.ireturn, 1) := by decide +kernel
theorem dL_law_516 : decode cL_law 516 = .ok (.aload_n 1, 1) := by decide +kernel
theorem dL_law_517 : decode cL_law 517 = .ok (.aload_n 0, 1) := by decide +kernel
theorem dL_law_518 : decode cL_law 518 = .ok (.iload_n 3, 1) := by decide +kernel
theorem dL_law_519 : decode cL_law 519 = .ok (.iconst 1, 1) := by decide +kernel
theorem dL_law_520 : decode cL_law 520 = .ok (.iadd, 1) := by decide +kernel
theorem dL_law_521 : decode cL_law 521 = .ok (.iaload, 1) := by decide +kernel
theorem dL_law_522 : decode cL_law 522 = .ok (.aload_n 0, 1) := by decide +kernel
theorem dL_law_523 : decode cL_law 523 = .ok (.iload_n 3, 1) := by decide +kernel
theorem dL_law_524 : decode cL_law 524 = .ok (.iconst 2, 1) := by decide +kernel
theorem dL_law_525 : decode cL_law 525 = .ok (.iadd, 1) := by decide +kernel
theorem dL_law_526 : decode cL_law 526 = .ok (.iaload, 1) := by decide +kernel
theorem dL_law_527 : decode cL_law 527 = .ok (.invokevirtual 77, 3) := by decide +kernel
theorem dL_law_530 : decode cL_law 530 = .ok (.aload_n 2, 1) := by decide +kernel
theorem dL_law_531 : decode cL_law 531 = .ok (.aload_n 0, 1) := by decide +kernel
theorem dL_law_532 : decode cL_law 532 = .ok (.iload_n 3, 1) := by decide +kernel
theorem dL_law_533 : decode cL_law 533 = .ok (.iconst 1, 1) := by decide +kernel
theorem dL_law_534 : decode cL_law 534 = .ok (.iadd, 1) := by decide +kernel
theorem dL_law_535 : decode cL_law 535 = .ok (.iaload, 1) := by decide +kernel
theorem dL_law_536 : decode cL_law 536 = .ok (.aload_n 0, 1) := by decide +kernel
theorem dL_law_537 : decode cL_law 537 = .ok (.iload_n 3, 1) := by decide +kernel
theorem dL_law_538 : decode cL_law 538 = .ok (.iconst 2, 1) := by decide +kernel
theorem dL_law_539 : decode cL_law 539 = .ok (.iadd, 1) := by decide +kernel
theorem dL_law_540 : decode cL_law 540 = .ok (.iaload, 1) := by decide +kernel
theorem dL_law_541 : decode cL_law 541 = .ok (.invokevirtual 80, 3) := by decide +kernel
theorem dL_law_544 : decode cL_law 544 = .ok (.lcmp, 1) := by decide +kernel
theorem dL_law_545 : decode cL_law 545 = .ok (.ifCond .eq 123, 3) := by decide +kernel
theorem dL_law_548 : decode cL_law 548 = .ok (.iconst 0, 1) := by decide +kernel
theorem dL_law_549 : decode cL_law 549 = .ok (.ireturn, 1) := by decide +kernel
theorem dL_law_550 : decode cL_law 550 = .ok (.aload_n 1, 1) := by decide +kernel
theorem dL_law_551 : decode cL_law 551 = .ok (.invokevirtual 81, 3) := by decide +kernel
theorem dL_law_554 : decode cL_law 554 = .ok (.aload_n 2, 1) := by decide +kernel
theorem dL_law_555 : decode cL_law 555 = .ok (.invokevirtual 84, 3) := by decide +kernel
theorem dL_law_558 : decode cL_law 558 = .ok (.if_icmp .eq 110, 3) := by decide +kernel
theorem dL_law_561 : decode cL_law 561 = .ok (.iconst 0, 1) := by decide +kernel
theorem dL_law_562 : decode cL_law 562 = .ok (.ireturn, 1) := by decide +kernel
theorem dL_law_563 : decode cL_law 563 = .ok (.aload_n 1, 1) := by decide +kernel
theorem dL_law_564 : decode cL_law 564 = .ok (.invokevirtual 85, 3) := by decide +kernel
theorem dL_law_567 : decode cL_law 567 = .ok (.aload_n 2, 1) := by decide +kernel
theorem dL_law_568 : decode cL_law 568 = .ok (.invokevirtual 88, 3) := by decide +kernel
theorem dL_law_571 : decode cL_law 571 = .ok (.if_icmp .eq 97, 3) := by decide +kernel
theorem dL_law_574 : decode cL_law 574 = .ok (.iconst 0, 1) := by decide +kernel
theorem dL_law_575 : decode cL_law 575 = .ok (.ireturn, 1) := by decide +kernel
theorem dL_law_576 : decode cL_law 576 = .ok (.aload_n 1, 1) := by decide +kernel
theorem dL_law_577 : decode cL_law 577 = .ok (.aload_n 0, 1) := by decide +kernel
theorem dL_law_578 : decode cL_law 578 = .ok (.iload_n 3, 1) := by decide +kernel
theorem dL_law_579 : decode cL_law 579 = .ok (.iconst 1, 1) := by decide +kernel
theorem dL_law_580 : decode cL_law 580 = .ok (.iadd, 1) := by decide +kernel
theorem dL_law_581 : decode cL_law 581 = .ok (.iaload, 1) := by decide +kernel
theorem dL_law_582 : decode cL_law 582 = .ok (.aload_n 0, 1) := by decide +kernel
theorem dL_law_583 : decode cL_law 583 = .ok (.iload_n 3, 1) := by decide +kernel
theorem dL_law_584 : decode cL_law 584 = .ok (.iconst 2, 1) := by decide +kernel
theorem dL_law_585 : decode cL_law 585 = .ok (.iadd, 1) := by decide +kernel
theorem dL_law_586 : decode cL_law 586 = .ok (.iaload, 1) := by decide +kernel
theorem dL_law_587 : decode cL_law 587 = .ok (.invokevirtual 89, 3) := by decide +kernel
theorem dL_law_590 : decode cL_law 590 = .ok (.aload_n 2, 1) := by decide +kernel
theorem dL_law_591 : decode cL_law 591 = .ok (.aload_n 0, 1) := by decide +kernel
theorem dL_law_592 : decode cL_law 592 = .ok (.iload_n 3, 1) := by decide +kernel
theorem dL_law_593 : decode cL_law 593 = .ok (.iconst 1, 1) := by decide +kernel
theorem dL_law_594 : decode cL_law 594 = .ok (.iadd, 1) := by decide +kernel
theorem dL_law_595 : decode cL_law 595 = .ok (.iaload, 1) := by decide +kernel
theorem dL_law_596 : decode cL_law 596 = .ok (.aload_n 0, 1) := by decide +kernel
theorem dL_law_597 : decode cL_law 597 = .ok (.iload_n 3, 1) := by decide +kernel
theorem dL_law_598 : decode cL_law 598 = .ok (.iconst 2, 1) := by decide +kernel
theorem dL_law_599 : decode cL_law 599 = .ok (.iadd, 1) := by decide +kernel
theorem dL_law_600 : decode cL_law 600 = .ok (.iaload, 1) := by decide +kernel
theorem dL_law_601 : decode cL_law 601 = .ok (.invokevirtual 92, 3) := by decide +kernel
theorem dL_law_604 : decode cL_law 604 = .ok (.if_icmp .eq 64, 3) := by decide +kernel
theorem dL_law_607 : decode cL_law 607 = .ok (.iconst 0, 1) := by decide +kernel
theorem dL_law_608 : decode cL_law 608 = .ok (.ireturn, 1) := by decide +kernel
theorem dL_law_609 : decode cL_law 609 = .ok (.aload_n 1, 1) := by decide +kernel
theorem dL_law_610 : decode cL_law 610 = .ok (.aload_n 0, 1) := by decide +kernel
theorem dL_law_611 : decode cL_law 611 = .ok (.iload_n 3, 1) := by decide +kernel
theorem dL_law_612 : decode cL_law 612 = .ok (.iconst 1, 1) := by decide +kernel
theorem dL_law_613 : decode cL_law 613 = .ok (.iadd, 1) := by decide +kernel
theorem dL_law_614 : decode cL_law 614 = .ok (.iaload, 1) := by decide +kernel
theorem dL_law_615 : decode cL_law 615 = .ok (.invokevirtual 93, 3) := by decide +kernel
theorem dL_law_618 : decode cL_law 618 = .ok (.aload_n 2, 1) := by decide +kernel
theorem dL_law_619 : decode cL_law 619 = .ok (.aload_n 0, 1) := by decide +kernel
theorem dL_law_620 : decode cL_law 620 = .ok (.iload_n 3, 1) := by decide +kernel
theorem dL_law_621 : decode cL_law 621 = .ok (.iconst 1, 1) := by decide +kernel
theorem dL_law_622 : decode cL_law 622 = .ok (.iadd, 1) := by decide +kernel
theorem dL_law_623 : decode cL_law 623 = .ok (.iaload, 1) := by decide +kernel
theorem dL_law_624 : decode cL_law 624 = .ok (.invokevirtual 96, 3) := by decide +kernel
theorem dL_law_627 : decode cL_law 627 = .ok (.if_icmp .eq 41, 3) := by decide +kernel
theorem dL_law_630 : decode cL_law 630 = .ok (.iconst 0, 1) := by decide +kernel
theorem dL_law_631 : decode cL_law 631 = .ok (.ireturn, 1) := by decide +kernel
theorem dL_law_632 : decode cL_law 632 = .ok (.aload_n 1, 1) := by decide +kernel
theorem dL_law_633 : decode cL_law 633 = .ok (.invokevirtual 97, 3) := by decide +kernel
theorem dL_law_636 : decode cL_law 636 = .ok (.aload_n 2, 1) := by decide +kernel
theorem dL_law_637 : decode cL_law 637 = .ok (.invokevirtual 100, 3) := by decide +kernel
theorem dL_law_640 : decode cL_law 640 = .ok (.if_icmp .eq 28, 3) := by decide +kernel
theorem dL_law_643 : decode cL_law 643 = .ok (.iconst 0, 1) := by decide +kernel
theorem dL_law_644 : decode cL_law 644 = .ok (.ireturn, 1) := by decide +kernel
theorem dL_law_645 : decode cL_law 645 = .ok (.aload_n 1, 1) := by decide +kernel
theorem dL_law_646 : decode cL_law 646 = .ok (.aload_n 0, 1) := by decide +kernel
theorem dL_law_647 : decode cL_law 647 = .ok (.iload_n 3, 1) := by decide +kernel
theorem dL_law_648 : decode cL_law 648 = .ok (.iconst 1, 1) := by decide +kernel
theorem dL_law_649 : decode cL_law 649 = .ok (.iadd, 1) := by decide +kernel
theorem dL_law_650 : decode cL_law 650 = .ok (.iaload, 1) := by decide +kernel
theorem dL_law_651 : decode cL_law 651 = .ok (.invokevirtual 101, 3) := by decide +kernel
theorem dL_law_654 : decode cL_law 654 = .ok (.aload_n 2, 1) := by decide +kernel
theorem dL_law_655 : decode cL_law 655 = .ok (.aload_n 0, 1) := by decide +kernel
theorem dL_law_656 : decode cL_law 656 = .ok (.iload_n 3, 1) := by decide +kernel
theorem dL_law_657 : decode cL_law 657 = .ok (.iconst 1, 1) := by decide +kernel
theorem dL_law_658 : decode cL_law 658 = .ok (.iadd, 1) := by decide +kernel
theorem dL_law_659 : decode cL_law 659 = .ok (.iaload, 1) := by decide +kernel
theorem dL_law_660 : decode cL_law 660 = .ok (.invokevirtual 104, 3) := by decide +kernel
theorem dL_law_663 : decode cL_law 663 = .ok (.if_icmp .eq 5, 3) := by decide +kernel
theorem dL_law_666 : decode cL_law 666 = .ok (.iconst 0, 1) := by decide +kernel
theorem dL_law_667 : decode cL_law 667 = .ok (.ireturn, 1) := by decide +kernel
theorem dL_law_668 : decode cL_law 668 = .ok (.iinc 3 4, 3) := by decide +kernel
theorem dL_law_671 : decode cL_law 671 = .ok (.goto (-653), 3) := by decide +kernel
theorem dL_law_674 : decode cL_law 674 = .ok (.iconst 1, 1) := by decide +kernel
theorem dL_law_675 : decode cL_law 675 = .ok (.ireturn, 1) := by decide +kernel
