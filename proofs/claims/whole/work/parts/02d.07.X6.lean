theorem dX6_best_195 : decode cX6_best 195 = .ok (.aload_n 0, 1) := by decide +kernel
theorem dX6_best_196 : decode cX6_best 196 = .ok (.getfield 83, 3) := by decide +kernel
theorem dX6_best_199 : decode cX6_best 199 = .ok (.bipush 8, 2) := by decide +kernel
theorem dX6_best_201 : decode cX6_best 201 = .ok (.iload_n 2, 1) := by decide +kernel
theorem dX6_best_202 : decode cX6_best 202 = .ok (.iconst 1, 1) := by decide +kernel
theorem dX6_best_203 : decode cX6_best 203 = .ok (.iload 6, 2) := by decide +kernel
theorem dX6_best_205 : decode cX6_best 205 = .ok (.ishl, 1) := by decide +kernel
theorem dX6_best_206 : decode cX6_best 206 = .ok (.ior, 1) := by decide +kernel
theorem dX6_best_207 : decode cX6_best 207 = .ok (.imul, 1) := by decide +kernel
theorem dX6_best_208 : decode cX6_best 208 = .ok (.iload 6, 2) := by decide +kernel
theorem dX6_best_210 : decode cX6_best 210 = .ok (.iadd, 1) := by decide +kernel
theorem dX6_best_211 : decode cX6_best 211 = .ok (.iaload, 1) := by decide +kernel
theorem dX6_best_212 : decode cX6_best 212 = .ok (.iadd, 1) := by decide +kernel
theorem dX6_best_213 : decode cX6_best 213 = .ok (.aload_n 0, 1) := by decide +kernel
theorem dX6_best_214 : decode cX6_best 214 = .ok (.getfield 83, 3) := by decide +kernel
theorem dX6_best_217 : decode cX6_best 217 = .ok (.bipush 8, 2) := by decide +kernel
theorem dX6_best_219 : decode cX6_best 219 = .ok (.iload_n 2, 1) := by decide +kernel
theorem dX6_best_220 : decode cX6_best 220 = .ok (.imul, 1) := by decide +kernel
theorem dX6_best_221 : decode cX6_best 221 = .ok (.iload_n 3, 1) := by decide +kernel
theorem dX6_best_222 : decode cX6_best 222 = .ok (.iadd, 1) := by decide +kernel
theorem dX6_best_223 : decode cX6_best 223 = .ok (.iaload, 1) := by decide +kernel
theorem dX6_best_224 : decode cX6_best 224 = .ok (.if_icmp .ne 7, 3) := by decide +kernel
theorem dX6_best_227 : decode cX6_best 227 = .ok (.iconst 1, 1) := by decide +kernel
theorem dX6_best_228 : decode cX6_best 228 = .ok (.goto 4, 3) := by decide +kernel
theorem dX6_best_231 : decode cX6_best 231 = .ok (.iconst 0, 1) := by decide +kernel
theorem dX6_best_232 : decode cX6_best 232 = .ok (.istore 7, 2) := by decide +kernel
theorem dX6_best_234 : decode cX6_best 234 = .ok (.iload 7, 2) := by decide +kernel
theorem dX6_best_236 : decode cX6_best 236 = .ok (.ifCond .eq 8, 3) := by decide +kernel
theorem dX6_best_239 : decode cX6_best 239 = .ok (.iload 6, 2) := by decide +kernel
theorem dX6_best_241 : decode cX6_best 241 = .ok (.goto 5, 3) := by decide +kernel
theorem dX6_best_244 : decode cX6_best 244 = .ok (.iload 5, 2) := by decide +kernel
theorem dX6_best_246 : decode cX6_best 246 = .ok (.istore 5, 2) := by decide +kernel
theorem dX6_best_248 : decode cX6_best 248 = .ok (.iinc 6 (-1), 3) := by decide +kernel
theorem dX6_best_251 : decode cX6_best 251 = .ok (.goto (-77), 3) := by decide +kernel
theorem dX6_best_254 : decode cX6_best 254 = .ok (.aload_n 0, 1) := by decide +kernel
theorem dX6_best_255 : decode cX6_best 255 = .ok (.getfield 86, 3) := by decide +kernel
theorem dX6_best_258 : decode cX6_best 258 = .ok (.iload 4, 2) := by decide +kernel
theorem dX6_best_260 : decode cX6_best 260 = .ok (.iload 5, 2) := by decide +kernel
theorem dX6_best_262 : decode cX6_best 262 = .ok (.iastore, 1) := by decide +kernel
theorem dX6_best_263 : decode cX6_best 263 = .ok (.iload_n 2, 1) := by decide +kernel
theorem dX6_best_264 : decode cX6_best 264 = .ok (.iconst 1, 1) := by decide +kernel
theorem dX6_best_265 : decode cX6_best 265 = .ok (.iload 5, 2) := by decide +kernel
theorem dX6_best_267 : decode cX6_best 267 = .ok (.ishl, 1) := by decide +kernel
theorem dX6_best_268 : decode cX6_best 268 = .ok (.ior, 1) := by decide +kernel
theorem dX6_best_269 : decode cX6_best 269 = .ok (.istore_n 2, 1) := by decide +kernel
theorem dX6_best_270 : decode cX6_best 270 = .ok (.iload 5, 2) := by decide +kernel
theorem dX6_best_272 : decode cX6_best 272 = .ok (.istore_n 3, 1) := by decide +kernel
theorem dX6_best_273 : decode cX6_best 273 = .ok (.iinc 4 1, 3) := by decide +kernel
theorem dX6_best_276 : decode cX6_best 276 = .ok (.goto (-122), 3) := by decide +kernel
theorem dX6_best_279 : decode cX6_best 279 = .ok (.aload_n 0, 1) := by decide +kernel
theorem dX6_best_280 : decode cX6_best 280 = .ok (.getfield 83, 3) := by decide +kernel
theorem dX6_best_283 : decode cX6_best 283 = .ok (.bipush 7, 2) := by decide +kernel
theorem dX6_best_285 : decode cX6_best 285 = .ok (.iaload, 1) := by decide +kernel
theorem dX6_best_286 : decode cX6_best 286 = .ok (.ireturn, 1) := by decide +kernel
theorem dX6_fewestMoves_0 : decode cX6_fewestMoves 0 = .ok (.aload_n 0, 1) := by decide +kernel
theorem dX6_fewestMoves_1 : decode cX6_fewestMoves 1 = .ok (.aload_n 0, 1) := by decide +kernel
theorem dX6_fewestMoves_2 : decode cX6_fewestMoves 2 = .ok (.invokevirtual 163, 3) := by decide +kernel
theorem dX6_fewestMoves_5 : decode cX6_fewestMoves 5 = .ok (.invokevirtual 128, 3) := by decide +kernel
theorem dX6_fewestMoves_8 : decode cX6_fewestMoves 8 = .ok (.ireturn, 1) := by decide +kernel
theorem dX6_fewestByTrying_0 : decode cX6_fewestByTrying 0 = .ok (.aload_n 0, 1) := by decide +kernel
theorem dX6_fewestByTrying_1 : decode cX6_fewestByTrying 1 = .ok (.aload_n 0, 1) := by decide +kernel
theorem dX6_fewestByTrying_2 : decode cX6_fewestByTrying 2 = .ok (.invokevirtual 163, 3) := by decide +kernel
theorem dX6_fewestByTrying_5 : decode cX6_fewestByTrying 5 = .ok (.invokevirtual 128, 3) := by decide +kernel
theorem dX6_fewestByTrying_8 : decode cX6_fewestByTrying 8 = .ok (.ireturn, 1) := by decide +kernel
theorem dX6_nextAt_0 : decode cX6_nextAt 0 = .ok (.aload_n 0, 1) := by decide +kernel
theorem dX6_nextAt_1 : decode cX6_nextAt 1 = .ok (.iload_n 1, 1) := by decide +kernel
theorem dX6_nextAt_2 : decode cX6_nextAt 2 = .ok (.iconst 0, 1) := by decide +kernel
theorem dX6_nextAt_3 : decode cX6_nextAt 3 = .ok (.aload_n 0, 1) := by decide +kernel
theorem dX6_nextAt_4 : decode cX6_nextAt 4 = .ok (.getfield 157, 3) := by decide +kernel
theorem dX6_nextAt_7 : decode cX6_nextAt 7 = .ok (.iconst 1, 1) := by decide +kernel
theorem dX6_nextAt_8 : decode cX6_nextAt 8 = .ok (.isub, 1) := by decide +kernel
theorem dX6_nextAt_9 : decode cX6_nextAt 9 = .ok (.invokestatic 95, 3) := by decide +kernel
theorem dX6_nextAt_12 : decode cX6_nextAt 12 = .ok (.invokevirtual 117, 3) := by decide +kernel
theorem dX6_nextAt_15 : decode cX6_nextAt 15 = .ok (.ifCond .ne 5, 3) := by decide +kernel
theorem dX6_nextAt_18 : decode cX6_nextAt 18 = .ok (.iconst 0, 1) := by decide +kernel
theorem dX6_nextAt_19 : decode cX6_nextAt 19 = .ok (.ireturn, 1) := by decide +kernel
theorem dX6_nextAt_20 : decode cX6_nextAt 20 = .ok (.aload_n 0, 1) := by decide +kernel
theorem dX6_nextAt_21 : decode cX6_nextAt 21 = .ok (.invokevirtual 163, 3) := by decide +kernel
theorem dX6_nextAt_24 : decode cX6_nextAt 24 = .ok (.pop, 1) := by decide +kernel
theorem dX6_nextAt_25 : decode cX6_nextAt 25 = .ok (.aload_n 0, 1) := by decide +kernel
theorem dX6_nextAt_26 : decode cX6_nextAt 26 = .ok (.getfield 86, 3) := by decide +kernel
theorem dX6_nextAt_29 : decode cX6_nextAt 29 = .ok (.iload_n 1, 1) := by decide +kernel
theorem dX6_nextAt_30 : decode cX6_nextAt 30 = .ok (.iaload, 1) := by decide +kernel
theorem dX6_nextAt_31 : decode cX6_nextAt 31 = .ok (.ireturn, 1) := by decide +kernel
theorem dX6_runAll_0 : decode cX6_runAll 0 = .ok (.aload_n 0, 1) := by decide +kernel
theorem dX6_runAll_1 : decode cX6_runAll 1 = .ok (.iconst 0, 1) := by decide +kernel
theorem dX6_runAll_2 : decode cX6_runAll 2 = .ok (.putfield 89, 3) := by decide +kernel
theorem dX6_runAll_5 : decode cX6_runAll 5 = .ok (.aload_n 0, 1) := by decide +kernel
theorem dX6_runAll_6 : decode cX6_runAll 6 = .ok (.invokevirtual 163, 3) := by decide +kernel
theorem dX6_runAll_9 : decode cX6_runAll 9 = .ok (.pop, 1) := by decide +kernel
theorem dX6_runAll_10 : decode cX6_runAll 10 = .ok (.iconst 0, 1) := by decide +kernel
theorem dX6_runAll_11 : decode cX6_runAll 11 = .ok (.istore_n 1, 1) := by decide +kernel
theorem dX6_runAll_12 : decode cX6_runAll 12 = .ok (.iconst 0, 1) := by decide +kernel
theorem dX6_runAll_13 : decode cX6_runAll 13 = .ok (.istore_n 2, 1) := by decide +kernel
theorem dX6_runAll_14 : decode cX6_runAll 14 = .ok (.iload_n 2, 1) := by decide +kernel
theorem dX6_runAll_15 : decode cX6_runAll 15 = .ok (.aload_n 0, 1) := by decide +kernel
theorem dX6_runAll_16 : decode cX6_runAll 16 = .ok (.getfield 157, 3) := by decide +kernel
theorem dX6_runAll_19 : decode cX6_runAll 19 = .ok (.if_icmp .ge 65, 3) := by decide +kernel
theorem dX6_runAll_22 : decode cX6_runAll 22 = .ok (.aload_n 0, 1) := by decide +kernel
theorem dX6_runAll_23 : decode cX6_runAll 23 = .ok (.getfield 74, 3) := by decide +kernel
theorem dX6_runAll_26 : decode cX6_runAll 26 = .ok (.aload_n 0, 1) := by decide +kernel
theorem dX6_runAll_27 : decode cX6_runAll 27 = .ok (.getfield 86, 3) := by decide +kernel
theorem dX6_runAll_30 : decode cX6_runAll 30 = .ok (.iload_n 2, 1) := by decide +kernel
theorem dX6_runAll_31 : decode cX6_runAll 31 = .ok (.iaload, 1) := by decide +kernel
theorem dX6_runAll_32 : decode cX6_runAll 32 = .ok (.iaload, 1) := by decide +kernel
theorem dX6_runAll_33 : decode cX6_runAll 33 = .ok (.istore_n 3, 1) := by decide +kernel
theorem dX6_runAll_34 : decode cX6_runAll 34 = .ok (.aload_n 0, 1) := by decide +kernel
theorem dX6_runAll_35 : decode cX6_runAll 35 = .ok (.getfield 77, 3) := by decide +kernel
theorem dX6_runAll_38 : decode cX6_runAll 38 = .ok (.aload_n 0, 1) := by decide +kernel
theorem dX6_runAll_39 : decode cX6_runAll 39 = .ok (.getfield 86, 3) := by decide +kernel
theorem dX6_runAll_42 : decode cX6_runAll 42 = .ok (.iload_n 2, 1) := by decide +kernel
theorem dX6_runAll_43 : decode cX6_runAll 43 = .ok (.iaload, 1) := by decide +kernel
theorem dX6_runAll_44 : decode cX6_runAll 44 = .ok (.iaload, 1) := by decide +kernel
theorem dX6_runAll_45 : decode cX6_runAll 45 = .ok (.istore 4, 2) := by decide +kernel
theorem dX6_runAll_47 : decode cX6_runAll 47 = .ok (.aload_n 0, 1) := by decide +kernel
theorem dX6_runAll_48 : decode cX6_runAll 48 = .ok (.getfield 59, 3) := by decide +kernel
theorem dX6_runAll_51 : decode cX6_runAll 51 = .ok (.iload_n 3, 1) := by decide +kernel
theorem dX6_runAll_52 : decode cX6_runAll 52 = .ok (.iaload, 1) := by decide +kernel
theorem dX6_runAll_53 : decode cX6_runAll 53 = .ok (.iconst (-1), 1) := by decide +kernel
theorem dX6_runAll_54 : decode cX6_runAll 54 = .ok (.if_icmp .ne 24, 3) := by decide +kernel
theorem dX6_runAll_57 : decode cX6_runAll 57 = .ok (.aload_n 0, 1) := by decide +kernel
theorem dX6_runAll_58 : decode cX6_runAll 58 = .ok (.iload 4, 2) := by decide +kernel
theorem dX6_runAll_60 : decode cX6_runAll 60 = .ok (.iload_n 3, 1) := by decide +kernel
theorem dX6_runAll_61 : decode cX6_runAll 61 = .ok (.invokevirtual 134, 3) := by decide +kernel
theorem dX6_runAll_64 : decode cX6_runAll 64 = .ok (.ifCond .eq 14, 3) := by decide +kernel
theorem dX6_runAll_67 : decode cX6_runAll 67 = .ok (.aload_n 0, 1) := by decide +kernel
theorem dX6_runAll_68 : decode cX6_runAll 68 = .ok (.iload_n 3, 1) := by decide +kernel
theorem dX6_runAll_69 : decode cX6_runAll 69 = .ok (.iload 4, 2) := by decide +kernel
theorem dX6_runAll_71 : decode cX6_runAll 71 = .ok (.invokevirtual 154, 3) := by decide +kernel
theorem dX6_runAll_74 : decode cX6_runAll 74 = .ok (.pop, 1) := by decide +kernel
theorem dX6_runAll_75 : decode cX6_runAll 75 = .ok (.iinc 1 1, 3) := by decide +kernel
theorem dX6_runAll_78 : decode cX6_runAll 78 = .ok (.iinc 2 1, 3) := by decide +kernel
theorem dX6_runAll_81 : decode cX6_runAll 81 = .ok (.goto (-67), 3) := by decide +kernel
theorem dX6_runAll_84 : decode cX6_runAll 84 = .ok (.aload_n 0, 1) := by decide +kernel
theorem dX6_runAll_85 : decode cX6_runAll 85 = .ok (.iconst 0, 1) := by decide +kernel
theorem dX6_runAll_86 : decode cX6_runAll 86 = .ok (.putfield 157, 3) := by decide +kernel
theorem dX6_runAll_89 : decode cX6_runAll 89 = .ok (.iload_n 1, 1) := by decide +kernel
theorem dX6_runAll_90 : decode cX6_runAll 90 = .ok (.ireturn, 1) := by decide +kernel
theorem dX6_slits_0 : decode cX6_slits 0 = .ok (.aload_n 0, 1) := by decide +kernel
theorem dX6_slits_1 : decode cX6_slits 1 = .ok (.aload_n 0, 1) := by decide +kernel
theorem dX6_slits_2 : decode cX6_slits 2 = .ok (.iload_n 1, 1) := by decide +kernel
theorem dX6_slits_3 : decode cX6_slits 3 = .ok (.invokevirtual 106, 3) := by decide +kernel
theorem dX6_slits_6 : decode cX6_slits 6 = .ok (.invokevirtual 117, 3) := by decide +kernel
theorem dX6_slits_9 : decode cX6_slits 9 = .ok (.ifCond .eq 31, 3) := by decide +kernel
theorem dX6_slits_12 : decode cX6_slits 12 = .ok (.aload_n 0, 1) := by decide +kernel
theorem dX6_slits_13 : decode cX6_slits 13 = .ok (.getfield 59, 3) := by decide +kernel
theorem dX6_slits_16 : decode cX6_slits 16 = .ok (.iload_n 1, 1) := by decide +kernel
theorem dX6_slits_17 : decode cX6_slits 17 = .ok (.iaload, 1) := by decide +kernel
theorem dX6_slits_18 : decode cX6_slits 18 = .ok (.iconst (-1), 1) := by decide +kernel
theorem dX6_slits_19 : decode cX6_slits 19 = .ok (.if_icmp .ne 7, 3) := by decide +kernel
theorem dX6_slits_22 : decode cX6_slits 22 = .ok (.iconst (-1), 1) := by decide +kernel
theorem dX6_slits_23 : decode cX6_slits 23 = .ok (.goto 18, 3) := by decide +kernel
theorem dX6_slits_26 : decode cX6_slits 26 = .ok (.aload_n 0, 1) := by decide +kernel
theorem dX6_slits_27 : decode cX6_slits 27 = .ok (.getfield 56, 3) := by decide +kernel
theorem dX6_slits_30 : decode cX6_slits 30 = .ok (.aload_n 0, 1) := by decide +kernel
theorem dX6_slits_31 : decode cX6_slits 31 = .ok (.getfield 59, 3) := by decide +kernel
theorem dX6_slits_34 : decode cX6_slits 34 = .ok (.iload_n 1, 1) := by decide +kernel
theorem dX6_slits_35 : decode cX6_slits 35 = .ok (.iaload, 1) := by decide +kernel
theorem dX6_slits_36 : decode cX6_slits 36 = .ok (.iaload, 1) := by decide +kernel
theorem dX6_slits_37 : decode cX6_slits 37 = .ok (.goto 4, 3) := by decide +kernel
theorem dX6_slits_40 : decode cX6_slits 40 = .ok (.iconst 0, 1) := by decide +kernel
theorem dX6_slits_41 : decode cX6_slits 41 = .ok (.ireturn, 1) := by decide +kernel
theorem dX6_isSlit_0 : decode cX6_isSlit 0 = .ok (.aload_n 0, 1) := by decide +kernel
theorem dX6_isSlit_1 : decode cX6_isSlit 1 = .ok (.iload_n 1, 1) := by decide +kernel
theorem dX6_isSlit_2 : decode cX6_isSlit 2 = .ok (.invokevirtual 106, 3) := by decide +kernel
theorem dX6_isSlit_5 : decode cX6_isSlit 5 = .ok (.istore_n 3, 1) := by decide +kernel
theorem dX6_isSlit_6 : decode cX6_isSlit 6 = .ok (.aload_n 0, 1) := by decide +kernel
theorem dX6_isSlit_7 : decode cX6_isSlit 7 = .ok (.iload_n 3, 1) := by decide +kernel
theorem dX6_isSlit_8 : decode cX6_isSlit 8 = .ok (.ifCond .eq 38, 3) := by decide +kernel
theorem dX6_isSlit_11 : decode cX6_isSlit 11 = .ok (.aload_n 0, 1) := by decide +kernel
theorem dX6_isSlit_12 : decode cX6_isSlit 12 = .ok (.getfield 59, 3) := by decide +kernel
theorem dX6_isSlit_15 : decode cX6_isSlit 15 = .ok (.iload_n 1, 1) := by decide +kernel
theorem dX6_isSlit_16 : decode cX6_isSlit 16 = .ok (.iaload, 1) := by decide +kernel
theorem dX6_isSlit_17 : decode cX6_isSlit 17 = .ok (.iconst (-1), 1) := by decide +kernel
theorem dX6_isSlit_18 : decode cX6_isSlit 18 = .ok (.if_icmp .eq 28, 3) := by decide +kernel
theorem dX6_isSlit_21 : decode cX6_isSlit 21 = .ok (.iload_n 2, 1) := by decide +kernel
theorem dX6_isSlit_22 : decode cX6_isSlit 22 = .ok (.iconst 0, 1) := by decide +kernel
theorem dX6_isSlit_23 : decode cX6_isSlit 23 = .ok (.aload_n 0, 1) := by decide +kernel
theorem dX6_isSlit_24 : decode cX6_isSlit 24 = .ok (.getfield 56, 3) := by decide +kernel
theorem dX6_isSlit_27 : decode cX6_isSlit 27 = .ok (.aload_n 0, 1) := by decide +kernel
theorem dX6_isSlit_28 : decode cX6_isSlit 28 = .ok (.getfield 59, 3) := by decide +kernel
theorem dX6_isSlit_31 : decode cX6_isSlit 31 = .ok (.iload_n 1, 1) := by decide +kernel
theorem dX6_isSlit_32 : decode cX6_isSlit 32 = .ok (.iaload, 1) := by decide +kernel
theorem dX6_isSlit_33 : decode cX6_isSlit 33 = .ok (.iaload, 1) := by decide +kernel
theorem dX6_isSlit_34 : decode cX6_isSlit 34 = .ok (.iconst 1, 1) := by decide +kernel
theorem dX6_isSlit_35 : decode cX6_isSlit 35 = .ok (.isub, 1) := by decide +kernel
theorem dX6_isSlit_36 : decode cX6_isSlit 36 = .ok (.invokestatic 95, 3) := by decide +kernel
theorem dX6_isSlit_39 : decode cX6_isSlit 39 = .ok (.ifCond .eq 7, 3) := by decide +kernel
theorem dX6_isSlit_42 : decode cX6_isSlit 42 = .ok (.iconst 1, 1) := by decide +kernel
theorem dX6_isSlit_43 : decode cX6_isSlit 43 = .ok (.goto 4, 3) := by decide +kernel
theorem dX6_isSlit_46 : decode cX6_isSlit 46 = .ok (.iconst 0, 1) := by decide +kernel
theorem dX6_isSlit_47 : decode cX6_isSlit 47 = .ok (.invokevirtual 117, 3) := by decide +kernel
theorem dX6_isSlit_50 : decode cX6_isSlit 50 = .ok (.ireturn, 1) := by decide +kernel
theorem dX6_slitWeight_0 : decode cX6_slitWeight 0 = .ok (.aload_n 0, 1) := by decide +kernel
theorem dX6_slitWeight_1 : decode cX6_slitWeight 1 = .ok (.iload_n 1, 1) := by decide +kernel
theorem dX6_slitWeight_2 : decode cX6_slitWeight 2 = .ok (.iload_n 2, 1) := by decide +kernel
theorem dX6_slitWeight_3 : decode cX6_slitWeight 3 = .ok (.invokevirtual 167, 3) := by decide +kernel
theorem dX6_slitWeight_6 : decode cX6_slitWeight 6 = .ok (.ifCond .eq 17, 3) := by decide +kernel
theorem dX6_slitWeight_9 : decode cX6_slitWeight 9 = .ok (.aload_n 0, 1) := by decide +kernel
theorem dX6_slitWeight_10 : decode cX6_slitWeight 10 = .ok (.getfield 62, 3) := by decide +kernel
theorem dX6_slitWeight_13 : decode cX6_slitWeight 13 = .ok (.bipush 15, 2) := by decide +kernel
theorem dX6_slitWeight_15 : decode cX6_slitWeight 15 = .ok (.iload_n 1, 1) := by decide +kernel
theorem dX6_slitWeight_16 : decode cX6_slitWeight 16 = .ok (.imul, 1) := by decide +kernel
theorem dX6_slitWeight_17 : decode cX6_slitWeight 17 = .ok (.iload_n 2, 1) := by decide +kernel
theorem dX6_slitWeight_18 : decode cX6_slitWeight 18 = .ok (.iadd, 1) := by decide +kernel
theorem dX6_slitWeight_19 : decode cX6_slitWeight 19 = .ok (.iaload, 1) := by decide +kernel
theorem dX6_slitWeight_20 : decode cX6_slitWeight 20 = .ok (.goto 4, 3) := by decide +kernel
theorem dX6_slitWeight_23 : decode cX6_slitWeight 23 = .ok (.iconst 0, 1) := by decide +kernel
theorem dX6_slitWeight_24 : decode cX6_slitWeight 24 = .ok (.ireturn, 1) := by decide +kernel
theorem dX6_slitOrder_0 : decode cX6_slitOrder 0 = .ok (.aload_n 0, 1) := by decide +kernel
theorem dX6_slitOrder_1 : decode cX6_slitOrder 1 = .ok (.iload_n 1, 1) := by decide +kernel
theorem dX6_slitOrder_2 : decode cX6_slitOrder 2 = .ok (.iload_n 2, 1) := by decide +kernel
theorem dX6_slitOrder_3 : decode cX6_slitOrder 3 = .ok (.invokevirtual 167, 3) := by decide +kernel
theorem dX6_slitOrder_6 : decode cX6_slitOrder 6 = .ok (.ifCond .eq 17, 3) := by decide +kernel
theorem dX6_slitOrder_9 : decode cX6_slitOrder 9 = .ok (.aload_n 0, 1) := by decide +kernel
theorem dX6_slitOrder_10 : decode cX6_slitOrder 10 = .ok (.getfield 65, 3) := by decide +kernel
theorem dX6_slitOrder_13 : decode cX6_slitOrder 13 = .ok (.bipush 15, 2) := by decide +kernel
theorem dX6_slitOrder_15 : decode cX6_slitOrder 15 = .ok (.iload_n 1, 1) := by decide +kernel
theorem dX6_slitOrder_16 : decode cX6_slitOrder 16 = .ok (.imul, 1) := by decide +kernel
theorem dX6_slitOrder_17 : decode cX6_slitOrder 17 = .ok (.iload_n 2, 1) := by decide +kernel
theorem dX6_slitOrder_18 : decode cX6_slitOrder 18 = .ok (.iadd, 1) := by decide +kernel
theorem dX6_slitOrder_19 : decode cX6_slitOrder 19 = .ok (.iaload, 1) := by decide +kernel
theorem dX6_slitOrder_20 : decode cX6_slitOrder 20 = .ok (.goto 4, 3) := by decide +kernel
theorem dX6_slitOrder_23 : decode cX6_slitOrder 23 = .ok (.iconst 0, 1) := by decide +kernel
theorem dX6_slitOrder_24 : decode cX6_slitOrder 24 = .ok (.ireturn, 1) := by decide +kernel
theorem dX6_lost_0 : decode cX6_lost 0 = .ok (.aload_n 0, 1) := by decide +kernel
theorem dX6_lost_1 : decode cX6_lost 1 = .ok (.aload_n 0, 1) := by decide +kernel
theorem dX6_lost_2 : decode cX6_lost 2 = .ok (.iload_n 1, 1) := by decide +kernel
theorem dX6_lost_3 : decode cX6_lost 3 = .ok (.invokevirtual 106, 3) := by decide +kernel
theorem dX6_lost_6 : decode cX6_lost 6 = .ok (.iload_n 2, 1) := by decide +kernel
theorem dX6_lost_7 : decode cX6_lost 7 = .ok (.iconst 0, 1) := by decide +kernel
theorem dX6_lost_8 : decode cX6_lost 8 = .ok (.iconst 2, 1) := by decide +kernel
theorem dX6_lost_9 : decode cX6_lost 9 = .ok (.invokestatic 95, 3) := by decide +kernel
theorem dX6_lost_12 : decode cX6_lost 12 = .ok (.invokevirtual 102, 3) := by decide +kernel
theorem dX6_lost_15 : decode cX6_lost 15 = .ok (.ifCond .eq 16, 3) := by decide +kernel
theorem dX6_lost_18 : decode cX6_lost 18 = .ok (.aload_n 0, 1) := by decide +kernel
theorem dX6_lost_19 : decode cX6_lost 19 = .ok (.getfield 68, 3) := by decide +kernel
theorem dX6_lost_22 : decode cX6_lost 22 = .ok (.iconst 3, 1) := by decide +kernel
theorem dX6_lost_23 : decode cX6_lost 23 = .ok (.iload_n 1, 1) := by decide +kernel
theorem dX6_lost_24 : decode cX6_lost 24 = .ok (.imul, 1) := by decide +kernel
theorem dX6_lost_25 : decode cX6_lost 25 = .ok (.iload_n 2, 1) := by decide +kernel
theorem dX6_lost_26 : decode cX6_lost 26 = .ok (.iadd, 1) := by decide +kernel
theorem dX6_lost_27 : decode cX6_lost 27 = .ok (.iaload, 1) := by decide +kernel
theorem dX6_lost_28 : decode cX6_lost 28 = .ok (.goto 4, 3) := by decide +kernel
theorem dX6_lost_31 : decode cX6_lost 31 = .ok (.iconst 0, 1) := by decide +kernel
theorem dX6_lost_32 : decode cX6_lost 32 = .ok (.ireturn, 1) := by decide +kernel
theorem dX6_isOrder_0 : decode cX6_isOrder 0 = .ok (.aload_n 0, 1) := by decide +kernel
theorem dX6_isOrder_1 : decode cX6_isOrder 1 = .ok (.iload_n 1, 1) := by decide +kernel
theorem dX6_isOrder_2 : decode cX6_isOrder 2 = .ok (.iconst 0, 1) := by decide +kernel
theorem dX6_isOrder_3 : decode cX6_isOrder 3 = .ok (.aload_n 0, 1) := by decide +kernel
theorem dX6_isOrder_4 : decode cX6_isOrder 4 = .ok (.getfield 121, 3) := by decide +kernel
theorem dX6_isOrder_7 : decode cX6_isOrder 7 = .ok (.iconst 1, 1) := by decide +kernel
theorem dX6_isOrder_8 : decode cX6_isOrder 8 = .ok (.isub, 1) := by decide +kernel
theorem dX6_isOrder_9 : decode cX6_isOrder 9 = .ok (.invokestatic 95, 3) := by decide +kernel
theorem dX6_isOrder_12 : decode cX6_isOrder 12 = .ok (.invokevirtual 117, 3) := by decide +kernel
theorem dX6_isOrder_15 : decode cX6_isOrder 15 = .ok (.ireturn, 1) := by decide +kernel
theorem dX6_delivered_0 : decode cX6_delivered 0 = .ok (.aload_n 0, 1) := by decide +kernel
theorem dX6_delivered_1 : decode cX6_delivered 1 = .ok (.iload_n 1, 1) := by decide +kernel
theorem dX6_delivered_2 : decode cX6_delivered 2 = .ok (.invokevirtual 170, 3) := by decide +kernel
theorem dX6_delivered_5 : decode cX6_delivered 5 = .ok (.ifCond .eq 12, 3) := by decide +kernel
theorem dX6_delivered_8 : decode cX6_delivered 8 = .ok (.aload_n 0, 1) := by decide +kernel
theorem dX6_delivered_9 : decode cX6_delivered 9 = .ok (.getfield 47, 3) := by decide +kernel
theorem dX6_delivered_12 : decode cX6_delivered 12 = .ok (.iload_n 1, 1) := by decide +kernel
theorem dX6_delivered_13 : decode cX6_delivered 13 = .ok (.iaload, 1) := by decide +kernel
theorem dX6_delivered_14 : decode cX6_delivered 14 = .ok (.goto 4, 3) := by decide +kernel
theorem dX6_delivered_17 : decode cX6_delivered 17 = .ok (.iconst 0, 1) := by decide +kernel
theorem dX6_delivered_18 : decode cX6_delivered 18 = .ok (.ireturn, 1) := by decide +kernel
theorem dX6_heatOf_0 : decode cX6_heatOf 0 = .ok (.aload_n 0, 1) := by decide +kernel
theorem dX6_heatOf_1 : decode cX6_heatOf 1 = .ok (.iload_n 1, 1) := by decide +kernel
theorem dX6_heatOf_2 : decode cX6_heatOf 2 = .ok (.invokevirtual 170, 3) := by decide +kernel
theorem dX6_heatOf_5 : decode cX6_heatOf 5 = .ok (.ifCond .eq 12, 3) := by decide +kernel
theorem dX6_heatOf_8 : decode cX6_heatOf 8 = .ok (.aload_n 0, 1) := by decide +kernel
theorem dX6_heatOf_9 : decode cX6_heatOf 9 = .ok (.getfield 50, 3) := by decide +kernel
theorem dX6_heatOf_12 : decode cX6_heatOf 12 = .ok (.iload_n 1, 1) := by decide +kernel
theorem dX6_heatOf_13 : decode cX6_heatOf 13 = .ok (.iaload, 1) := by decide +kernel
theorem dX6_heatOf_14 : decode cX6_heatOf 14 = .ok (.goto 4, 3) := by decide +kernel
theorem dX6_heatOf_17 : decode cX6_heatOf 17 = .ok (.iconst 0, 1) := by decide +kernel
theorem dX6_heatOf_18 : decode cX6_heatOf 18 = .ok (.ireturn, 1) := by decide +kernel
theorem dX6_stock_0 : decode cX6_stock 0 = .ok (.iconst 0, 1) := by decide +kernel
theorem dX6_stock_1 : decode cX6_stock 1 = .ok (.istore_n 2, 1) := by decide +kernel
theorem dX6_stock_2 : decode cX6_stock 2 = .ok (.iconst 0, 1) := by decide +kernel
theorem dX6_stock_3 : decode cX6_stock 3 = .ok (.istore_n 3, 1) := by decide +kernel
theorem dX6_stock_4 : decode cX6_stock 4 = .ok (.iload_n 3, 1) := by decide +kernel
theorem dX6_stock_5 : decode cX6_stock 5 = .ok (.aload_n 0, 1) := by decide +kernel
theorem dX6_stock_6 : decode cX6_stock 6 = .ok (.getfield 92, 3) := by decide +kernel
theorem dX6_stock_9 : decode cX6_stock 9 = .ok (.if_icmp .ge 112, 3) := by decide +kernel
theorem dX6_stock_12 : decode cX6_stock 12 = .ok (.iconst 0, 1) := by decide +kernel
theorem dX6_stock_13 : decode cX6_stock 13 = .ok (.istore 4, 2) := by decide +kernel
theorem dX6_stock_15 : decode cX6_stock 15 = .ok (.aload_n 0, 1) := by decide +kernel
theorem dX6_stock_16 : decode cX6_stock 16 = .ok (.getfield 59, 3) := by decide +kernel
theorem dX6_stock_19 : decode cX6_stock 19 = .ok (.iload_n 3, 1) := by decide +kernel
theorem dX6_stock_20 : decode cX6_stock 20 = .ok (.iaload, 1) := by decide +kernel
theorem dX6_stock_21 : decode cX6_stock 21 = .ok (.iconst (-1), 1) := by decide +kernel
theorem dX6_stock_22 : decode cX6_stock 22 = .ok (.if_icmp .eq 93, 3) := by decide +kernel
theorem dX6_stock_25 : decode cX6_stock 25 = .ok (.iload 4, 2) := by decide +kernel
theorem dX6_stock_27 : decode cX6_stock 27 = .ok (.aload_n 0, 1) := by decide +kernel
theorem dX6_stock_28 : decode cX6_stock 28 = .ok (.getfield 56, 3) := by decide +kernel
theorem dX6_stock_31 : decode cX6_stock 31 = .ok (.aload_n 0, 1) := by decide +kernel
theorem dX6_stock_32 : decode cX6_stock 32 = .ok (.getfield 59, 3) := by decide +kernel
theorem dX6_stock_35 : decode cX6_stock 35 = .ok (.iload_n 3, 1) := by decide +kernel
theorem dX6_stock_36 : decode cX6_stock 36 = .ok (.iaload, 1) := by decide +kernel
theorem dX6_stock_37 : decode cX6_stock 37 = .ok (.iaload, 1) := by decide +kernel
theorem dX6_stock_38 : decode cX6_stock 38 = .ok (.if_icmp .ge 77, 3) := by decide +kernel
theorem dX6_stock_41 : decode cX6_stock 41 = .ok (.aload_n 0, 1) := by decide +kernel
theorem dX6_stock_42 : decode cX6_stock 42 = .ok (.getfield 65, 3) := by decide +kernel
theorem dX6_stock_45 : decode cX6_stock 45 = .ok (.bipush 15, 2) := by decide +kernel
theorem dX6_stock_47 : decode cX6_stock 47 = .ok (.iload_n 3, 1) := by decide +kernel
theorem dX6_stock_48 : decode cX6_stock 48 = .ok (.imul, 1) := by decide +kernel
theorem dX6_stock_49 : decode cX6_stock 49 = .ok (.iload 4, 2) := by decide +kernel
theorem dX6_stock_51 : decode cX6_stock 51 = .ok (.iadd, 1) := by decide +kernel
theorem dX6_stock_52 : decode cX6_stock 52 = .ok (.iaload, 1) := by decide +kernel
theorem dX6_stock_53 : decode cX6_stock 53 = .ok (.iconst (-1), 1) := by decide +kernel
theorem dX6_stock_54 : decode cX6_stock 54 = .ok (.if_icmp .ne 28, 3) := by decide +kernel
theorem dX6_stock_57 : decode cX6_stock 57 = .ok (.aload_n 0, 1) := by decide +kernel
theorem dX6_stock_58 : decode cX6_stock 58 = .ok (.getfield 53, 3) := by decide +kernel
theorem dX6_stock_61 : decode cX6_stock 61 = .ok (.bipush 15, 2) := by decide +kernel
theorem dX6_stock_63 : decode cX6_stock 63 = .ok (.aload_n 0, 1) := by decide +kernel
theorem dX6_stock_64 : decode cX6_stock 64 = .ok (.getfield 59, 3) := by decide +kernel
theorem dX6_stock_67 : decode cX6_stock 67 = .ok (.iload_n 3, 1) := by decide +kernel
theorem dX6_stock_68 : decode cX6_stock 68 = .ok (.iaload, 1) := by decide +kernel
theorem dX6_stock_69 : decode cX6_stock 69 = .ok (.imul, 1) := by decide +kernel
theorem dX6_stock_70 : decode cX6_stock 70 = .ok (.iload 4, 2) := by decide +kernel
theorem dX6_stock_72 : decode cX6_stock 72 = .ok (.iadd, 1) := by decide +kernel
theorem dX6_stock_73 : decode cX6_stock 73 = .ok (.iaload, 1) := by decide +kernel
theorem dX6_stock_74 : decode cX6_stock 74 = .ok (.iload_n 1, 1) := by decide +kernel
theorem dX6_stock_75 : decode cX6_stock 75 = .ok (.if_icmp .ne 7, 3) := by decide +kernel
theorem dX6_stock_78 : decode cX6_stock 78 = .ok (.iconst 1, 1) := by decide +kernel
theorem dX6_stock_79 : decode cX6_stock 79 = .ok (.goto 4, 3) := by decide +kernel
theorem dX6_stock_82 : decode cX6_stock 82 = .ok (.iconst 0, 1) := by decide +kernel
theorem dX6_stock_83 : decode cX6_stock 83 = .ok (.istore 5, 2) := by decide +kernel
theorem dX6_stock_85 : decode cX6_stock 85 = .ok (.iload_n 2, 1) := by decide +kernel
theorem dX6_stock_86 : decode cX6_stock 86 = .ok (.iload 5, 2) := by decide +kernel
theorem dX6_stock_88 : decode cX6_stock 88 = .ok (.ifCond .eq 18, 3) := by decide +kernel
theorem dX6_stock_91 : decode cX6_stock 91 = .ok (.aload_n 0, 1) := by decide +kernel
theorem dX6_stock_92 : decode cX6_stock 92 = .ok (.getfield 62, 3) := by decide +kernel
theorem dX6_stock_95 : decode cX6_stock 95 = .ok (.bipush 15, 2) := by decide +kernel
theorem dX6_stock_97 : decode cX6_stock 97 = .ok (.iload_n 3, 1) := by decide +kernel
theorem dX6_stock_98 : decode cX6_stock 98 = .ok (.imul, 1) := by decide +kernel
theorem dX6_stock_99 : decode cX6_stock 99 = .ok (.iload 4, 2) := by decide +kernel
theorem dX6_stock_101 : decode cX6_stock 101 = .ok (.iadd, 1) := by decide +kernel
theorem dX6_stock_102 : decode cX6_stock 102 = .ok (.iaload, 1) := by decide +kernel
theorem dX6_stock_103 : decode cX6_stock 103 = .ok (.goto 4, 3) := by decide +kernel
theorem dX6_stock_106 : decode cX6_stock 106 = .ok (.iconst 0, 1) := by decide +kernel
theorem dX6_stock_107 : decode cX6_stock 107 = .ok (.iadd, 1) := by decide +kernel
theorem dX6_stock_108 : decode cX6_stock 108 = .ok (.istore_n 2, 1) := by decide +kernel
theorem dX6_stock_109 : decode cX6_stock 109 = .ok (.iinc 4 1, 3) := by decide +kernel
theorem dX6_stock_112 : decode cX6_stock 112 = .ok (.goto (-97), 3) := by decide +kernel
theorem dX6_stock_115 : decode cX6_stock 115 = .ok (.iinc 3 1, 3) := by decide +kernel
theorem dX6_stock_118 : decode cX6_stock 118 = .ok (.goto (-114), 3) := by decide +kernel
theorem dX6_stock_121 : decode cX6_stock 121 = .ok (.aload_n 0, 1) := by decide +kernel
theorem dX6_stock_122 : decode cX6_stock 122 = .ok (.iload_n 2, 1) := by decide +kernel
theorem dX6_stock_123 : decode cX6_stock 123 = .ok (.invokevirtual 128, 3) := by decide +kernel
theorem dX6_stock_126 : decode cX6_stock 126 = .ok (.ireturn, 1) := by decide +kernel
