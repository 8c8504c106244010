theorem dX6_movesFrom_9 : decode cX6_movesFrom 9 = .ok (.iconst 0, 1) := by decide +kernel
theorem dX6_movesFrom_10 : decode cX6_movesFrom 10 = .ok (.istore_n 3, 1) := by decide +kernel
theorem dX6_movesFrom_11 : decode cX6_movesFrom 11 = .ok (.iconst 0, 1) := by decide +kernel
theorem dX6_movesFrom_12 : decode cX6_movesFrom 12 = .ok (.istore 4, 2) := by decide +kernel
theorem dX6_movesFrom_14 : decode cX6_movesFrom 14 = .ok (.iconst 0, 1) := by decide +kernel
theorem dX6_movesFrom_15 : decode cX6_movesFrom 15 = .ok (.istore 5, 2) := by decide +kernel
theorem dX6_movesFrom_17 : decode cX6_movesFrom 17 = .ok (.iload 5, 2) := by decide +kernel
theorem dX6_movesFrom_19 : decode cX6_movesFrom 19 = .ok (.aload_n 0, 1) := by decide +kernel
theorem dX6_movesFrom_20 : decode cX6_movesFrom 20 = .ok (.getfield 56, 3) := by decide +kernel
theorem dX6_movesFrom_23 : decode cX6_movesFrom 23 = .ok (.iload_n 2, 1) := by decide +kernel
theorem dX6_movesFrom_24 : decode cX6_movesFrom 24 = .ok (.iaload, 1) := by decide +kernel
theorem dX6_movesFrom_25 : decode cX6_movesFrom 25 = .ok (.if_icmp .ge 49, 3) := by decide +kernel
theorem dX6_movesFrom_28 : decode cX6_movesFrom 28 = .ok (.iload 4, 2) := by decide +kernel
theorem dX6_movesFrom_30 : decode cX6_movesFrom 30 = .ok (.aload_n 0, 1) := by decide +kernel
theorem dX6_movesFrom_31 : decode cX6_movesFrom 31 = .ok (.getfield 53, 3) := by decide +kernel
theorem dX6_movesFrom_34 : decode cX6_movesFrom 34 = .ok (.bipush 15, 2) := by decide +kernel
theorem dX6_movesFrom_36 : decode cX6_movesFrom 36 = .ok (.iload_n 2, 1) := by decide +kernel
theorem dX6_movesFrom_37 : decode cX6_movesFrom 37 = .ok (.imul, 1) := by decide +kernel
theorem dX6_movesFrom_38 : decode cX6_movesFrom 38 = .ok (.iload 5, 2) := by decide +kernel
theorem dX6_movesFrom_40 : decode cX6_movesFrom 40 = .ok (.iadd, 1) := by decide +kernel
theorem dX6_movesFrom_41 : decode cX6_movesFrom 41 = .ok (.iaload, 1) := by decide +kernel
theorem dX6_movesFrom_42 : decode cX6_movesFrom 42 = .ok (.iadd, 1) := by decide +kernel
theorem dX6_movesFrom_43 : decode cX6_movesFrom 43 = .ok (.istore 4, 2) := by decide +kernel
theorem dX6_movesFrom_45 : decode cX6_movesFrom 45 = .ok (.iload_n 3, 1) := by decide +kernel
theorem dX6_movesFrom_46 : decode cX6_movesFrom 46 = .ok (.iload_n 1, 1) := by decide +kernel
theorem dX6_movesFrom_47 : decode cX6_movesFrom 47 = .ok (.iconst (-1), 1) := by decide +kernel
theorem dX6_movesFrom_48 : decode cX6_movesFrom 48 = .ok (.if_icmp .eq 13, 3) := by decide +kernel
theorem dX6_movesFrom_51 : decode cX6_movesFrom 51 = .ok (.aload_n 0, 1) := by decide +kernel
theorem dX6_movesFrom_52 : decode cX6_movesFrom 52 = .ok (.iload_n 1, 1) := by decide +kernel
theorem dX6_movesFrom_53 : decode cX6_movesFrom 53 = .ok (.iload 4, 2) := by decide +kernel
theorem dX6_movesFrom_55 : decode cX6_movesFrom 55 = .ok (.invokevirtual 144, 3) := by decide +kernel
theorem dX6_movesFrom_58 : decode cX6_movesFrom 58 = .ok (.ifCond .ne 7, 3) := by decide +kernel
theorem dX6_movesFrom_61 : decode cX6_movesFrom 61 = .ok (.iconst 1, 1) := by decide +kernel
theorem dX6_movesFrom_62 : decode cX6_movesFrom 62 = .ok (.goto 4, 3) := by decide +kernel
theorem dX6_movesFrom_65 : decode cX6_movesFrom 65 = .ok (.iconst 0, 1) := by decide +kernel
theorem dX6_movesFrom_66 : decode cX6_movesFrom 66 = .ok (.iadd, 1) := by decide +kernel
theorem dX6_movesFrom_67 : decode cX6_movesFrom 67 = .ok (.istore_n 3, 1) := by decide +kernel
theorem dX6_movesFrom_68 : decode cX6_movesFrom 68 = .ok (.iinc 5 1, 3) := by decide +kernel
theorem dX6_movesFrom_71 : decode cX6_movesFrom 71 = .ok (.goto (-54), 3) := by decide +kernel
theorem dX6_movesFrom_74 : decode cX6_movesFrom 74 = .ok (.iload_n 3, 1) := by decide +kernel
theorem dX6_movesFrom_75 : decode cX6_movesFrom 75 = .ok (.ireturn, 1) := by decide +kernel
theorem dX6_runs_0 : decode cX6_runs 0 = .ok (.aload_n 0, 1) := by decide +kernel
theorem dX6_runs_1 : decode cX6_runs 1 = .ok (.dup, 1) := by decide +kernel
theorem dX6_runs_2 : decode cX6_runs 2 = .ok (.getfield 147, 3) := by decide +kernel
theorem dX6_runs_5 : decode cX6_runs 5 = .ok (.aload_n 0, 1) := by decide +kernel
theorem dX6_runs_6 : decode cX6_runs 6 = .ok (.aload_n 0, 1) := by decide +kernel
theorem dX6_runs_7 : decode cX6_runs 7 = .ok (.getfield 71, 3) := by decide +kernel
theorem dX6_runs_10 : decode cX6_runs 10 = .ok (.iload_n 2, 1) := by decide +kernel
theorem dX6_runs_11 : decode cX6_runs 11 = .ok (.invokevirtual 150, 3) := by decide +kernel
theorem dX6_runs_14 : decode cX6_runs 14 = .ok (.iadd, 1) := by decide +kernel
theorem dX6_runs_15 : decode cX6_runs 15 = .ok (.putfield 147, 3) := by decide +kernel
theorem dX6_runs_18 : decode cX6_runs 18 = .ok (.aload_n 0, 1) := by decide +kernel
theorem dX6_runs_19 : decode cX6_runs 19 = .ok (.iload_n 2, 1) := by decide +kernel
theorem dX6_runs_20 : decode cX6_runs 20 = .ok (.putfield 71, 3) := by decide +kernel
theorem dX6_runs_23 : decode cX6_runs 23 = .ok (.aload_n 0, 1) := by decide +kernel
theorem dX6_runs_24 : decode cX6_runs 24 = .ok (.getfield 59, 3) := by decide +kernel
theorem dX6_runs_27 : decode cX6_runs 27 = .ok (.iload_n 1, 1) := by decide +kernel
theorem dX6_runs_28 : decode cX6_runs 28 = .ok (.iload_n 2, 1) := by decide +kernel
theorem dX6_runs_29 : decode cX6_runs 29 = .ok (.iastore, 1) := by decide +kernel
theorem dX6_runs_30 : decode cX6_runs 30 = .ok (.aload_n 0, 1) := by decide +kernel
theorem dX6_runs_31 : decode cX6_runs 31 = .ok (.getfield 35, 3) := by decide +kernel
theorem dX6_runs_34 : decode cX6_runs 34 = .ok (.aload_n 0, 1) := by decide +kernel
theorem dX6_runs_35 : decode cX6_runs 35 = .ok (.getfield 13, 3) := by decide +kernel
theorem dX6_runs_38 : decode cX6_runs 38 = .ok (.iload_n 1, 1) := by decide +kernel
theorem dX6_runs_39 : decode cX6_runs 39 = .ok (.iaload, 1) := by decide +kernel
theorem dX6_runs_40 : decode cX6_runs 40 = .ok (.if_icmp .ge 10, 3) := by decide +kernel
theorem dX6_runs_43 : decode cX6_runs 43 = .ok (.aload_n 0, 1) := by decide +kernel
theorem dX6_runs_44 : decode cX6_runs 44 = .ok (.getfield 35, 3) := by decide +kernel
theorem dX6_runs_47 : decode cX6_runs 47 = .ok (.goto 9, 3) := by decide +kernel
theorem dX6_runs_50 : decode cX6_runs 50 = .ok (.aload_n 0, 1) := by decide +kernel
theorem dX6_runs_51 : decode cX6_runs 51 = .ok (.getfield 13, 3) := by decide +kernel
theorem dX6_runs_54 : decode cX6_runs 54 = .ok (.iload_n 1, 1) := by decide +kernel
theorem dX6_runs_55 : decode cX6_runs 55 = .ok (.iaload, 1) := by decide +kernel
theorem dX6_runs_56 : decode cX6_runs 56 = .ok (.istore_n 3, 1) := by decide +kernel
theorem dX6_runs_57 : decode cX6_runs 57 = .ok (.aload_n 0, 1) := by decide +kernel
theorem dX6_runs_58 : decode cX6_runs 58 = .ok (.getfield 13, 3) := by decide +kernel
theorem dX6_runs_61 : decode cX6_runs 61 = .ok (.iload_n 1, 1) := by decide +kernel
theorem dX6_runs_62 : decode cX6_runs 62 = .ok (.iaload, 1) := by decide +kernel
theorem dX6_runs_63 : decode cX6_runs 63 = .ok (.iload_n 3, 1) := by decide +kernel
theorem dX6_runs_64 : decode cX6_runs 64 = .ok (.isub, 1) := by decide +kernel
theorem dX6_runs_65 : decode cX6_runs 65 = .ok (.istore 4, 2) := by decide +kernel
theorem dX6_runs_67 : decode cX6_runs 67 = .ok (.iload 4, 2) := by decide +kernel
theorem dX6_runs_69 : decode cX6_runs 69 = .ok (.aload_n 0, 1) := by decide +kernel
theorem dX6_runs_70 : decode cX6_runs 70 = .ok (.iload_n 1, 1) := by decide +kernel
theorem dX6_runs_71 : decode cX6_runs 71 = .ok (.invokevirtual 113, 3) := by decide +kernel
theorem dX6_runs_74 : decode cX6_runs 74 = .ok (.imul, 1) := by decide +kernel
theorem dX6_runs_75 : decode cX6_runs 75 = .ok (.aload_n 0, 1) := by decide +kernel
theorem dX6_runs_76 : decode cX6_runs 76 = .ok (.getfield 16, 3) := by decide +kernel
theorem dX6_runs_79 : decode cX6_runs 79 = .ok (.iload_n 1, 1) := by decide +kernel
theorem dX6_runs_80 : decode cX6_runs 80 = .ok (.iaload, 1) := by decide +kernel
theorem dX6_runs_81 : decode cX6_runs 81 = .ok (.idiv, 1) := by decide +kernel
theorem dX6_runs_82 : decode cX6_runs 82 = .ok (.istore 5, 2) := by decide +kernel
theorem dX6_runs_84 : decode cX6_runs 84 = .ok (.iload 4, 2) := by decide +kernel
theorem dX6_runs_86 : decode cX6_runs 86 = .ok (.iload 5, 2) := by decide +kernel
theorem dX6_runs_88 : decode cX6_runs 88 = .ok (.isub, 1) := by decide +kernel
theorem dX6_runs_89 : decode cX6_runs 89 = .ok (.istore 6, 2) := by decide +kernel
theorem dX6_runs_91 : decode cX6_runs 91 = .ok (.iload 6, 2) := by decide +kernel
theorem dX6_runs_93 : decode cX6_runs 93 = .ok (.istore 7, 2) := by decide +kernel
theorem dX6_runs_95 : decode cX6_runs 95 = .ok (.iconst 0, 1) := by decide +kernel
theorem dX6_runs_96 : decode cX6_runs 96 = .ok (.istore 8, 2) := by decide +kernel
theorem dX6_runs_98 : decode cX6_runs 98 = .ok (.iconst 0, 1) := by decide +kernel
theorem dX6_runs_99 : decode cX6_runs 99 = .ok (.istore 9, 2) := by decide +kernel
theorem dX6_runs_101 : decode cX6_runs 101 = .ok (.iload 9, 2) := by decide +kernel
theorem dX6_runs_103 : decode cX6_runs 103 = .ok (.aload_n 0, 1) := by decide +kernel
theorem dX6_runs_104 : decode cX6_runs 104 = .ok (.getfield 56, 3) := by decide +kernel
theorem dX6_runs_107 : decode cX6_runs 107 = .ok (.iload_n 2, 1) := by decide +kernel
theorem dX6_runs_108 : decode cX6_runs 108 = .ok (.iaload, 1) := by decide +kernel
theorem dX6_runs_109 : decode cX6_runs 109 = .ok (.if_icmp .ge 164, 3) := by decide +kernel
theorem dX6_runs_112 : decode cX6_runs 112 = .ok (.aload_n 0, 1) := by decide +kernel
theorem dX6_runs_113 : decode cX6_runs 113 = .ok (.getfield 53, 3) := by decide +kernel
theorem dX6_runs_116 : decode cX6_runs 116 = .ok (.bipush 15, 2) := by decide +kernel
theorem dX6_runs_118 : decode cX6_runs 118 = .ok (.iload_n 2, 1) := by decide +kernel
theorem dX6_runs_119 : decode cX6_runs 119 = .ok (.imul, 1) := by decide +kernel
theorem dX6_runs_120 : decode cX6_runs 120 = .ok (.iload 9, 2) := by decide +kernel
theorem dX6_runs_122 : decode cX6_runs 122 = .ok (.iadd, 1) := by decide +kernel
theorem dX6_runs_123 : decode cX6_runs 123 = .ok (.iaload, 1) := by decide +kernel
theorem dX6_runs_124 : decode cX6_runs 124 = .ok (.istore 10, 2) := by decide +kernel
theorem dX6_runs_126 : decode cX6_runs 126 = .ok (.iload 6, 2) := by decide +kernel
theorem dX6_runs_128 : decode cX6_runs 128 = .ok (.iload 10, 2) := by decide +kernel
theorem dX6_runs_130 : decode cX6_runs 130 = .ok (.imul, 1) := by decide +kernel
theorem dX6_runs_131 : decode cX6_runs 131 = .ok (.aload_n 0, 1) := by decide +kernel
theorem dX6_runs_132 : decode cX6_runs 132 = .ok (.getfield 7, 3) := by decide +kernel
theorem dX6_runs_135 : decode cX6_runs 135 = .ok (.iload_n 1, 1) := by decide +kernel
theorem dX6_runs_136 : decode cX6_runs 136 = .ok (.iaload, 1) := by decide +kernel
theorem dX6_runs_137 : decode cX6_runs 137 = .ok (.idiv, 1) := by decide +kernel
theorem dX6_runs_138 : decode cX6_runs 138 = .ok (.istore 11, 2) := by decide +kernel
theorem dX6_runs_140 : decode cX6_runs 140 = .ok (.iconst (-1), 1) := by decide +kernel
theorem dX6_runs_141 : decode cX6_runs 141 = .ok (.istore 12, 2) := by decide +kernel
theorem dX6_runs_143 : decode cX6_runs 143 = .ok (.aload_n 0, 1) := by decide +kernel
theorem dX6_runs_144 : decode cX6_runs 144 = .ok (.getfield 121, 3) := by decide +kernel
theorem dX6_runs_147 : decode cX6_runs 147 = .ok (.iconst 1, 1) := by decide +kernel
theorem dX6_runs_148 : decode cX6_runs 148 = .ok (.isub, 1) := by decide +kernel
theorem dX6_runs_149 : decode cX6_runs 149 = .ok (.istore 13, 2) := by decide +kernel
theorem dX6_runs_151 : decode cX6_runs 151 = .ok (.iload 13, 2) := by decide +kernel
theorem dX6_runs_153 : decode cX6_runs 153 = .ok (.ifCond .lt 45, 3) := by decide +kernel
theorem dX6_runs_156 : decode cX6_runs 156 = .ok (.aload_n 0, 1) := by decide +kernel
theorem dX6_runs_157 : decode cX6_runs 157 = .ok (.getfield 41, 3) := by decide +kernel
theorem dX6_runs_160 : decode cX6_runs 160 = .ok (.iload 13, 2) := by decide +kernel
theorem dX6_runs_162 : decode cX6_runs 162 = .ok (.iaload, 1) := by decide +kernel
theorem dX6_runs_163 : decode cX6_runs 163 = .ok (.iload 10, 2) := by decide +kernel
theorem dX6_runs_165 : decode cX6_runs 165 = .ok (.if_icmp .ne 23, 3) := by decide +kernel
theorem dX6_runs_168 : decode cX6_runs 168 = .ok (.aload_n 0, 1) := by decide +kernel
theorem dX6_runs_169 : decode cX6_runs 169 = .ok (.iload 13, 2) := by decide +kernel
theorem dX6_runs_171 : decode cX6_runs 171 = .ok (.aload_n 0, 1) := by decide +kernel
theorem dX6_runs_172 : decode cX6_runs 172 = .ok (.getfield 19, 3) := by decide +kernel
theorem dX6_runs_175 : decode cX6_runs 175 = .ok (.iload_n 1, 1) := by decide +kernel
theorem dX6_runs_176 : decode cX6_runs 176 = .ok (.iaload, 1) := by decide +kernel
theorem dX6_runs_177 : decode cX6_runs 177 = .ok (.invokevirtual 138, 3) := by decide +kernel
theorem dX6_runs_180 : decode cX6_runs 180 = .ok (.ifCond .eq 8, 3) := by decide +kernel
theorem dX6_runs_183 : decode cX6_runs 183 = .ok (.iload 13, 2) := by decide +kernel
theorem dX6_runs_185 : decode cX6_runs 185 = .ok (.goto 5, 3) := by decide +kernel
theorem dX6_runs_188 : decode cX6_runs 188 = .ok (.iload 12, 2) := by decide +kernel
theorem dX6_runs_190 : decode cX6_runs 190 = .ok (.istore 12, 2) := by decide +kernel
theorem dX6_runs_192 : decode cX6_runs 192 = .ok (.iinc 13 (-1), 3) := by decide +kernel
theorem dX6_runs_195 : decode cX6_runs 195 = .ok (.goto (-44), 3) := by decide +kernel
theorem dX6_runs_198 : decode cX6_runs 198 = .ok (.iload 12, 2) := by decide +kernel
theorem dX6_runs_200 : decode cX6_runs 200 = .ok (.iconst (-1), 1) := by decide +kernel
theorem dX6_runs_201 : decode cX6_runs 201 = .ok (.if_icmp .eq 31, 3) := by decide +kernel
theorem dX6_runs_204 : decode cX6_runs 204 = .ok (.aload_n 0, 1) := by decide +kernel
theorem dX6_runs_205 : decode cX6_runs 205 = .ok (.getfield 47, 3) := by decide +kernel
theorem dX6_runs_208 : decode cX6_runs 208 = .ok (.iload 12, 2) := by decide +kernel
theorem dX6_runs_210 : decode cX6_runs 210 = .ok (.dup2, 1) := by decide +kernel
theorem dX6_runs_211 : decode cX6_runs 211 = .ok (.iaload, 1) := by decide +kernel
theorem dX6_runs_212 : decode cX6_runs 212 = .ok (.iload 11, 2) := by decide +kernel
theorem dX6_runs_214 : decode cX6_runs 214 = .ok (.iadd, 1) := by decide +kernel
theorem dX6_runs_215 : decode cX6_runs 215 = .ok (.iastore, 1) := by decide +kernel
theorem dX6_runs_216 : decode cX6_runs 216 = .ok (.aload_n 0, 1) := by decide +kernel
theorem dX6_runs_217 : decode cX6_runs 217 = .ok (.getfield 50, 3) := by decide +kernel
theorem dX6_runs_220 : decode cX6_runs 220 = .ok (.iload 12, 2) := by decide +kernel
theorem dX6_runs_222 : decode cX6_runs 222 = .ok (.aload_n 0, 1) := by decide +kernel
theorem dX6_runs_223 : decode cX6_runs 223 = .ok (.getfield 19, 3) := by decide +kernel
theorem dX6_runs_226 : decode cX6_runs 226 = .ok (.iload_n 1, 1) := by decide +kernel
theorem dX6_runs_227 : decode cX6_runs 227 = .ok (.iaload, 1) := by decide +kernel
theorem dX6_runs_228 : decode cX6_runs 228 = .ok (.iastore, 1) := by decide +kernel
theorem dX6_runs_229 : decode cX6_runs 229 = .ok (.iinc 8 1, 3) := by decide +kernel
theorem dX6_runs_232 : decode cX6_runs 232 = .ok (.aload_n 0, 1) := by decide +kernel
theorem dX6_runs_233 : decode cX6_runs 233 = .ok (.getfield 62, 3) := by decide +kernel
theorem dX6_runs_236 : decode cX6_runs 236 = .ok (.bipush 15, 2) := by decide +kernel
theorem dX6_runs_238 : decode cX6_runs 238 = .ok (.iload_n 1, 1) := by decide +kernel
theorem dX6_runs_239 : decode cX6_runs 239 = .ok (.imul, 1) := by decide +kernel
theorem dX6_runs_240 : decode cX6_runs 240 = .ok (.iload 9, 2) := by decide +kernel
theorem dX6_runs_242 : decode cX6_runs 242 = .ok (.iadd, 1) := by decide +kernel
theorem dX6_runs_243 : decode cX6_runs 243 = .ok (.iload 11, 2) := by decide +kernel
theorem dX6_runs_245 : decode cX6_runs 245 = .ok (.iastore, 1) := by decide +kernel
theorem dX6_runs_246 : decode cX6_runs 246 = .ok (.aload_n 0, 1) := by decide +kernel
theorem dX6_runs_247 : decode cX6_runs 247 = .ok (.getfield 65, 3) := by decide +kernel
theorem dX6_runs_250 : decode cX6_runs 250 = .ok (.bipush 15, 2) := by decide +kernel
theorem dX6_runs_252 : decode cX6_runs 252 = .ok (.iload_n 1, 1) := by decide +kernel
theorem dX6_runs_253 : decode cX6_runs 253 = .ok (.imul, 1) := by decide +kernel
theorem dX6_runs_254 : decode cX6_runs 254 = .ok (.iload 9, 2) := by decide +kernel
theorem dX6_runs_256 : decode cX6_runs 256 = .ok (.iadd, 1) := by decide +kernel
theorem dX6_runs_257 : decode cX6_runs 257 = .ok (.iload 12, 2) := by decide +kernel
theorem dX6_runs_259 : decode cX6_runs 259 = .ok (.iastore, 1) := by decide +kernel
theorem dX6_runs_260 : decode cX6_runs 260 = .ok (.iload 7, 2) := by decide +kernel
theorem dX6_runs_262 : decode cX6_runs 262 = .ok (.iload 11, 2) := by decide +kernel
theorem dX6_runs_264 : decode cX6_runs 264 = .ok (.isub, 1) := by decide +kernel
theorem dX6_runs_265 : decode cX6_runs 265 = .ok (.istore 7, 2) := by decide +kernel
theorem dX6_runs_267 : decode cX6_runs 267 = .ok (.iinc 9 1, 3) := by decide +kernel
theorem dX6_runs_270 : decode cX6_runs 270 = .ok (.goto (-169), 3) := by decide +kernel
theorem dX6_runs_273 : decode cX6_runs 273 = .ok (.aload_n 0, 1) := by decide +kernel
theorem dX6_runs_274 : decode cX6_runs 274 = .ok (.getfield 68, 3) := by decide +kernel
theorem dX6_runs_277 : decode cX6_runs 277 = .ok (.iconst 3, 1) := by decide +kernel
theorem dX6_runs_278 : decode cX6_runs 278 = .ok (.iload_n 1, 1) := by decide +kernel
theorem dX6_runs_279 : decode cX6_runs 279 = .ok (.imul, 1) := by decide +kernel
theorem dX6_runs_280 : decode cX6_runs 280 = .ok (.iload_n 3, 1) := by decide +kernel
theorem dX6_runs_281 : decode cX6_runs 281 = .ok (.iastore, 1) := by decide +kernel
theorem dX6_runs_282 : decode cX6_runs 282 = .ok (.aload_n 0, 1) := by decide +kernel
theorem dX6_runs_283 : decode cX6_runs 283 = .ok (.getfield 68, 3) := by decide +kernel
theorem dX6_runs_286 : decode cX6_runs 286 = .ok (.iconst 3, 1) := by decide +kernel
theorem dX6_runs_287 : decode cX6_runs 287 = .ok (.iload_n 1, 1) := by decide +kernel
theorem dX6_runs_288 : decode cX6_runs 288 = .ok (.imul, 1) := by decide +kernel
theorem dX6_runs_289 : decode cX6_runs 289 = .ok (.iconst 1, 1) := by decide +kernel
theorem dX6_runs_290 : decode cX6_runs 290 = .ok (.iadd, 1) := by decide +kernel
theorem dX6_runs_291 : decode cX6_runs 291 = .ok (.iload 5, 2) := by decide +kernel
theorem dX6_runs_293 : decode cX6_runs 293 = .ok (.iastore, 1) := by decide +kernel
theorem dX6_runs_294 : decode cX6_runs 294 = .ok (.aload_n 0, 1) := by decide +kernel
theorem dX6_runs_295 : decode cX6_runs 295 = .ok (.getfield 68, 3) := by decide +kernel
theorem dX6_runs_298 : decode cX6_runs 298 = .ok (.iconst 3, 1) := by decide +kernel
theorem dX6_runs_299 : decode cX6_runs 299 = .ok (.iload_n 1, 1) := by decide +kernel
theorem dX6_runs_300 : decode cX6_runs 300 = .ok (.imul, 1) := by decide +kernel
theorem dX6_runs_301 : decode cX6_runs 301 = .ok (.iconst 2, 1) := by decide +kernel
theorem dX6_runs_302 : decode cX6_runs 302 = .ok (.iadd, 1) := by decide +kernel
theorem dX6_runs_303 : decode cX6_runs 303 = .ok (.iload 7, 2) := by decide +kernel
theorem dX6_runs_305 : decode cX6_runs 305 = .ok (.iastore, 1) := by decide +kernel
theorem dX6_runs_306 : decode cX6_runs 306 = .ok (.iload 8, 2) := by decide +kernel
theorem dX6_runs_308 : decode cX6_runs 308 = .ok (.ireturn, 1) := by decide +kernel
theorem dX6_run_0 : decode cX6_run 0 = .ok (.aload_n 0, 1) := by decide +kernel
theorem dX6_run_1 : decode cX6_run 1 = .ok (.iload_n 1, 1) := by decide +kernel
theorem dX6_run_2 : decode cX6_run 2 = .ok (.invokevirtual 106, 3) := by decide +kernel
theorem dX6_run_5 : decode cX6_run 5 = .ok (.ifCond .eq 15, 3) := by decide +kernel
theorem dX6_run_8 : decode cX6_run 8 = .ok (.aload_n 0, 1) := by decide +kernel
theorem dX6_run_9 : decode cX6_run 9 = .ok (.iload_n 2, 1) := by decide +kernel
theorem dX6_run_10 : decode cX6_run 10 = .ok (.invokevirtual 131, 3) := by decide +kernel
theorem dX6_run_13 : decode cX6_run 13 = .ok (.ifCond .eq 7, 3) := by decide +kernel
theorem dX6_run_16 : decode cX6_run 16 = .ok (.iconst 1, 1) := by decide +kernel
theorem dX6_run_17 : decode cX6_run 17 = .ok (.goto 4, 3) := by decide +kernel
theorem dX6_run_20 : decode cX6_run 20 = .ok (.iconst 0, 1) := by decide +kernel
theorem dX6_run_21 : decode cX6_run 21 = .ok (.istore_n 3, 1) := by decide +kernel
theorem dX6_run_22 : decode cX6_run 22 = .ok (.aload_n 0, 1) := by decide +kernel
theorem dX6_run_23 : decode cX6_run 23 = .ok (.iload_n 3, 1) := by decide +kernel
theorem dX6_run_24 : decode cX6_run 24 = .ok (.iload_n 3, 1) := by decide +kernel
theorem dX6_run_25 : decode cX6_run 25 = .ok (.ifCond .eq 26, 3) := by decide +kernel
theorem dX6_run_28 : decode cX6_run 28 = .ok (.aload_n 0, 1) := by decide +kernel
theorem dX6_run_29 : decode cX6_run 29 = .ok (.getfield 59, 3) := by decide +kernel
theorem dX6_run_32 : decode cX6_run 32 = .ok (.iload_n 1, 1) := by decide +kernel
theorem dX6_run_33 : decode cX6_run 33 = .ok (.iaload, 1) := by decide +kernel
theorem dX6_run_34 : decode cX6_run 34 = .ok (.iconst (-1), 1) := by decide +kernel
theorem dX6_run_35 : decode cX6_run 35 = .ok (.if_icmp .ne 16, 3) := by decide +kernel
theorem dX6_run_38 : decode cX6_run 38 = .ok (.aload_n 0, 1) := by decide +kernel
theorem dX6_run_39 : decode cX6_run 39 = .ok (.iload_n 2, 1) := by decide +kernel
theorem dX6_run_40 : decode cX6_run 40 = .ok (.iload_n 1, 1) := by decide +kernel
theorem dX6_run_41 : decode cX6_run 41 = .ok (.invokevirtual 134, 3) := by decide +kernel
theorem dX6_run_44 : decode cX6_run 44 = .ok (.ifCond .eq 7, 3) := by decide +kernel
theorem dX6_run_47 : decode cX6_run 47 = .ok (.iconst 1, 1) := by decide +kernel
theorem dX6_run_48 : decode cX6_run 48 = .ok (.goto 4, 3) := by decide +kernel
theorem dX6_run_51 : decode cX6_run 51 = .ok (.iconst 0, 1) := by decide +kernel
theorem dX6_run_52 : decode cX6_run 52 = .ok (.invokevirtual 102, 3) := by decide +kernel
theorem dX6_run_55 : decode cX6_run 55 = .ok (.ifCond .eq 12, 3) := by decide +kernel
theorem dX6_run_58 : decode cX6_run 58 = .ok (.aload_n 0, 1) := by decide +kernel
theorem dX6_run_59 : decode cX6_run 59 = .ok (.iload_n 1, 1) := by decide +kernel
theorem dX6_run_60 : decode cX6_run 60 = .ok (.iload_n 2, 1) := by decide +kernel
theorem dX6_run_61 : decode cX6_run 61 = .ok (.invokevirtual 154, 3) := by decide +kernel
theorem dX6_run_64 : decode cX6_run 64 = .ok (.goto 4, 3) := by decide +kernel
theorem dX6_run_67 : decode cX6_run 67 = .ok (.iconst 0, 1) := by decide +kernel
theorem dX6_run_68 : decode cX6_run 68 = .ok (.ireturn, 1) := by decide +kernel
theorem dX6_moves_0 : decode cX6_moves 0 = .ok (.aload_n 0, 1) := by decide +kernel
theorem dX6_moves_1 : decode cX6_moves 1 = .ok (.aload_n 0, 1) := by decide +kernel
theorem dX6_moves_2 : decode cX6_moves 2 = .ok (.iload_n 1, 1) := by decide +kernel
theorem dX6_moves_3 : decode cX6_moves 3 = .ok (.invokevirtual 131, 3) := by decide +kernel
theorem dX6_moves_6 : decode cX6_moves 6 = .ok (.invokevirtual 117, 3) := by decide +kernel
theorem dX6_moves_9 : decode cX6_moves 9 = .ok (.ifCond .eq 15, 3) := by decide +kernel
theorem dX6_moves_12 : decode cX6_moves 12 = .ok (.aload_n 0, 1) := by decide +kernel
theorem dX6_moves_13 : decode cX6_moves 13 = .ok (.aload_n 0, 1) := by decide +kernel
theorem dX6_moves_14 : decode cX6_moves 14 = .ok (.getfield 71, 3) := by decide +kernel
theorem dX6_moves_17 : decode cX6_moves 17 = .ok (.iload_n 1, 1) := by decide +kernel
theorem dX6_moves_18 : decode cX6_moves 18 = .ok (.invokevirtual 150, 3) := by decide +kernel
theorem dX6_moves_21 : decode cX6_moves 21 = .ok (.goto 4, 3) := by decide +kernel
theorem dX6_moves_24 : decode cX6_moves 24 = .ok (.iconst 0, 1) := by decide +kernel
theorem dX6_moves_25 : decode cX6_moves 25 = .ok (.ireturn, 1) := by decide +kernel
theorem dX6_moved_0 : decode cX6_moved 0 = .ok (.aload_n 0, 1) := by decide +kernel
theorem dX6_moved_1 : decode cX6_moved 1 = .ok (.aload_n 0, 1) := by decide +kernel
theorem dX6_moved_2 : decode cX6_moved 2 = .ok (.getfield 147, 3) := by decide +kernel
theorem dX6_moved_5 : decode cX6_moved 5 = .ok (.invokevirtual 128, 3) := by decide +kernel
theorem dX6_moved_8 : decode cX6_moved 8 = .ok (.ireturn, 1) := by decide +kernel
theorem dX6_plan_0 : decode cX6_plan 0 = .ok (.aload_n 0, 1) := by decide +kernel
theorem dX6_plan_1 : decode cX6_plan 1 = .ok (.iload_n 1, 1) := by decide +kernel
theorem dX6_plan_2 : decode cX6_plan 2 = .ok (.invokevirtual 106, 3) := by decide +kernel
theorem dX6_plan_5 : decode cX6_plan 5 = .ok (.ifCond .eq 15, 3) := by decide +kernel
theorem dX6_plan_8 : decode cX6_plan 8 = .ok (.aload_n 0, 1) := by decide +kernel
theorem dX6_plan_9 : decode cX6_plan 9 = .ok (.iload_n 2, 1) := by decide +kernel
theorem dX6_plan_10 : decode cX6_plan 10 = .ok (.invokevirtual 131, 3) := by decide +kernel
theorem dX6_plan_13 : decode cX6_plan 13 = .ok (.ifCond .eq 7, 3) := by decide +kernel
theorem dX6_plan_16 : decode cX6_plan 16 = .ok (.iconst 1, 1) := by decide +kernel
theorem dX6_plan_17 : decode cX6_plan 17 = .ok (.goto 4, 3) := by decide +kernel
theorem dX6_plan_20 : decode cX6_plan 20 = .ok (.iconst 0, 1) := by decide +kernel
theorem dX6_plan_21 : decode cX6_plan 21 = .ok (.istore_n 3, 1) := by decide +kernel
theorem dX6_plan_22 : decode cX6_plan 22 = .ok (.iload_n 3, 1) := by decide +kernel
theorem dX6_plan_23 : decode cX6_plan 23 = .ok (.ifCond .eq 35, 3) := by decide +kernel
theorem dX6_plan_26 : decode cX6_plan 26 = .ok (.aload_n 0, 1) := by decide +kernel
theorem dX6_plan_27 : decode cX6_plan 27 = .ok (.getfield 59, 3) := by decide +kernel
theorem dX6_plan_30 : decode cX6_plan 30 = .ok (.iload_n 1, 1) := by decide +kernel
theorem dX6_plan_31 : decode cX6_plan 31 = .ok (.iaload, 1) := by decide +kernel
theorem dX6_plan_32 : decode cX6_plan 32 = .ok (.iconst (-1), 1) := by decide +kernel
theorem dX6_plan_33 : decode cX6_plan 33 = .ok (.if_icmp .ne 25, 3) := by decide +kernel
theorem dX6_plan_36 : decode cX6_plan 36 = .ok (.aload_n 0, 1) := by decide +kernel
theorem dX6_plan_37 : decode cX6_plan 37 = .ok (.iload_n 2, 1) := by decide +kernel
theorem dX6_plan_38 : decode cX6_plan 38 = .ok (.iload_n 1, 1) := by decide +kernel
theorem dX6_plan_39 : decode cX6_plan 39 = .ok (.invokevirtual 134, 3) := by decide +kernel
theorem dX6_plan_42 : decode cX6_plan 42 = .ok (.ifCond .eq 16, 3) := by decide +kernel
theorem dX6_plan_45 : decode cX6_plan 45 = .ok (.aload_n 0, 1) := by decide +kernel
theorem dX6_plan_46 : decode cX6_plan 46 = .ok (.getfield 157, 3) := by decide +kernel
theorem dX6_plan_49 : decode cX6_plan 49 = .ok (.bipush 7, 2) := by decide +kernel
theorem dX6_plan_51 : decode cX6_plan 51 = .ok (.if_icmp .ge 7, 3) := by decide +kernel
theorem dX6_plan_54 : decode cX6_plan 54 = .ok (.iconst 1, 1) := by decide +kernel
theorem dX6_plan_55 : decode cX6_plan 55 = .ok (.goto 4, 3) := by decide +kernel
theorem dX6_plan_58 : decode cX6_plan 58 = .ok (.iconst 0, 1) := by decide +kernel
theorem dX6_plan_59 : decode cX6_plan 59 = .ok (.istore 4, 2) := by decide +kernel
theorem dX6_plan_61 : decode cX6_plan 61 = .ok (.iconst 0, 1) := by decide +kernel
theorem dX6_plan_62 : decode cX6_plan 62 = .ok (.istore 5, 2) := by decide +kernel
theorem dX6_plan_64 : decode cX6_plan 64 = .ok (.iload 5, 2) := by decide +kernel
theorem dX6_plan_66 : decode cX6_plan 66 = .ok (.aload_n 0, 1) := by decide +kernel
theorem dX6_plan_67 : decode cX6_plan 67 = .ok (.getfield 157, 3) := by decide +kernel
theorem dX6_plan_70 : decode cX6_plan 70 = .ok (.if_icmp .ge 32, 3) := by decide +kernel
theorem dX6_plan_73 : decode cX6_plan 73 = .ok (.iload 4, 2) := by decide +kernel
theorem dX6_plan_75 : decode cX6_plan 75 = .ok (.ifCond .eq 18, 3) := by decide +kernel
theorem dX6_plan_78 : decode cX6_plan 78 = .ok (.aload_n 0, 1) := by decide +kernel
theorem dX6_plan_79 : decode cX6_plan 79 = .ok (.getfield 74, 3) := by decide +kernel
theorem dX6_plan_82 : decode cX6_plan 82 = .ok (.iload 5, 2) := by decide +kernel
theorem dX6_plan_84 : decode cX6_plan 84 = .ok (.iaload, 1) := by decide +kernel
theorem dX6_plan_85 : decode cX6_plan 85 = .ok (.iload_n 1, 1) := by decide +kernel
theorem dX6_plan_86 : decode cX6_plan 86 = .ok (.if_icmp .eq 7, 3) := by decide +kernel
theorem dX6_plan_89 : decode cX6_plan 89 = .ok (.iconst 1, 1) := by decide +kernel
theorem dX6_plan_90 : decode cX6_plan 90 = .ok (.goto 4, 3) := by decide +kernel
theorem dX6_plan_93 : decode cX6_plan 93 = .ok (.iconst 0, 1) := by decide +kernel
theorem dX6_plan_94 : decode cX6_plan 94 = .ok (.istore 4, 2) := by decide +kernel
theorem dX6_plan_96 : decode cX6_plan 96 = .ok (.iinc 5 1, 3) := by decide +kernel
theorem dX6_plan_99 : decode cX6_plan 99 = .ok (.goto (-35), 3) := by decide +kernel
theorem dX6_plan_102 : decode cX6_plan 102 = .ok (.aload_n 0, 1) := by decide +kernel
theorem dX6_plan_103 : decode cX6_plan 103 = .ok (.iload_n 3, 1) := by decide +kernel
theorem dX6_plan_104 : decode cX6_plan 104 = .ok (.iload 4, 2) := by decide +kernel
theorem dX6_plan_106 : decode cX6_plan 106 = .ok (.invokevirtual 102, 3) := by decide +kernel
theorem dX6_plan_109 : decode cX6_plan 109 = .ok (.ifCond .ne 5, 3) := by decide +kernel
theorem dX6_plan_112 : decode cX6_plan 112 = .ok (.iconst 0, 1) := by decide +kernel
theorem dX6_plan_113 : decode cX6_plan 113 = .ok (.ireturn, 1) := by decide +kernel
theorem dX6_plan_114 : decode cX6_plan 114 = .ok (.aload_n 0, 1) := by decide +kernel
theorem dX6_plan_115 : decode cX6_plan 115 = .ok (.getfield 74, 3) := by decide +kernel
theorem dX6_plan_118 : decode cX6_plan 118 = .ok (.aload_n 0, 1) := by decide +kernel
theorem dX6_plan_119 : decode cX6_plan 119 = .ok (.getfield 157, 3) := by decide +kernel
theorem dX6_plan_122 : decode cX6_plan 122 = .ok (.iload_n 1, 1) := by decide +kernel
theorem dX6_plan_123 : decode cX6_plan 123 = .ok (.iastore, 1) := by decide +kernel
theorem dX6_plan_124 : decode cX6_plan 124 = .ok (.aload_n 0, 1) := by decide +kernel
theorem dX6_plan_125 : decode cX6_plan 125 = .ok (.getfield 77, 3) := by decide +kernel
theorem dX6_plan_128 : decode cX6_plan 128 = .ok (.aload_n 0, 1) := by decide +kernel
theorem dX6_plan_129 : decode cX6_plan 129 = .ok (.getfield 157, 3) := by decide +kernel
theorem dX6_plan_132 : decode cX6_plan 132 = .ok (.iload_n 2, 1) := by decide +kernel
theorem dX6_plan_133 : decode cX6_plan 133 = .ok (.iastore, 1) := by decide +kernel
theorem dX6_plan_134 : decode cX6_plan 134 = .ok (.aload_n 0, 1) := by decide +kernel
theorem dX6_plan_135 : decode cX6_plan 135 = .ok (.dup, 1) := by decide +kernel
theorem dX6_plan_136 : decode cX6_plan 136 = .ok (.getfield 157, 3) := by decide +kernel
theorem dX6_plan_139 : decode cX6_plan 139 = .ok (.iconst 1, 1) := by decide +kernel
theorem dX6_plan_140 : decode cX6_plan 140 = .ok (.iadd, 1) := by decide +kernel
theorem dX6_plan_141 : decode cX6_plan 141 = .ok (.putfield 157, 3) := by decide +kernel
theorem dX6_plan_144 : decode cX6_plan 144 = .ok (.aload_n 0, 1) := by decide +kernel
theorem dX6_plan_145 : decode cX6_plan 145 = .ok (.getfield 157, 3) := by decide +kernel
theorem dX6_plan_148 : decode cX6_plan 148 = .ok (.iconst 1, 1) := by decide +kernel
theorem dX6_plan_149 : decode cX6_plan 149 = .ok (.isub, 1) := by decide +kernel
theorem dX6_plan_150 : decode cX6_plan 150 = .ok (.ireturn, 1) := by decide +kernel
theorem dX6_waiting_0 : decode cX6_waiting 0 = .ok (.aload_n 0, 1) := by decide +kernel
theorem dX6_waiting_1 : decode cX6_waiting 1 = .ok (.aload_n 0, 1) := by decide +kernel
theorem dX6_waiting_2 : decode cX6_waiting 2 = .ok (.getfield 157, 3) := by decide +kernel
theorem dX6_waiting_5 : decode cX6_waiting 5 = .ok (.invokevirtual 128, 3) := by decide +kernel
theorem dX6_waiting_8 : decode cX6_waiting 8 = .ok (.ireturn, 1) := by decide +kernel
theorem dX6_between_0 : decode cX6_between 0 = .ok (.aload_n 0, 1) := by decide +kernel
theorem dX6_between_1 : decode cX6_between 1 = .ok (.iload_n 1, 1) := by decide +kernel
theorem dX6_between_2 : decode cX6_between 2 = .ok (.bipush 7, 2) := by decide +kernel
theorem dX6_between_4 : decode cX6_between 4 = .ok (.if_icmp .ne 10, 3) := by decide +kernel
theorem dX6_between_7 : decode cX6_between 7 = .ok (.aload_n 0, 1) := by decide +kernel
theorem dX6_between_8 : decode cX6_between 8 = .ok (.getfield 71, 3) := by decide +kernel
theorem dX6_between_11 : decode cX6_between 11 = .ok (.goto 9, 3) := by decide +kernel
theorem dX6_between_14 : decode cX6_between 14 = .ok (.aload_n 0, 1) := by decide +kernel
theorem dX6_between_15 : decode cX6_between 15 = .ok (.getfield 77, 3) := by decide +kernel
theorem dX6_between_18 : decode cX6_between 18 = .ok (.iload_n 1, 1) := by decide +kernel
theorem dX6_between_19 : decode cX6_between 19 = .ok (.iaload, 1) := by decide +kernel
theorem dX6_between_20 : decode cX6_between 20 = .ok (.aload_n 0, 1) := by decide +kernel
theorem dX6_between_21 : decode cX6_between 21 = .ok (.getfield 77, 3) := by decide +kernel
theorem dX6_between_24 : decode cX6_between 24 = .ok (.iload_n 2, 1) := by decide +kernel
theorem dX6_between_25 : decode cX6_between 25 = .ok (.iaload, 1) := by decide +kernel
theorem dX6_between_26 : decode cX6_between 26 = .ok (.invokevirtual 150, 3) := by decide +kernel
theorem dX6_between_29 : decode cX6_between 29 = .ok (.ireturn, 1) := by decide +kernel
theorem dX6_best_0 : decode cX6_best 0 = .ok (.iconst 1, 1) := by decide +kernel
theorem dX6_best_1 : decode cX6_best 1 = .ok (.aload_n 0, 1) := by decide +kernel
theorem dX6_best_2 : decode cX6_best 2 = .ok (.getfield 157, 3) := by decide +kernel
theorem dX6_best_5 : decode cX6_best 5 = .ok (.ishl, 1) := by decide +kernel
theorem dX6_best_6 : decode cX6_best 6 = .ok (.iconst 1, 1) := by decide +kernel
theorem dX6_best_7 : decode cX6_best 7 = .ok (.isub, 1) := by decide +kernel
theorem dX6_best_8 : decode cX6_best 8 = .ok (.istore_n 1, 1) := by decide +kernel
theorem dX6_best_9 : decode cX6_best 9 = .ok (.iload_n 1, 1) := by decide +kernel
theorem dX6_best_10 : decode cX6_best 10 = .ok (.istore_n 2, 1) := by decide +kernel
theorem dX6_best_11 : decode cX6_best 11 = .ok (.iload_n 2, 1) := by decide +kernel
theorem dX6_best_12 : decode cX6_best 12 = .ok (.ifCond .lt 134, 3) := by decide +kernel
theorem dX6_best_15 : decode cX6_best 15 = .ok (.iconst 0, 1) := by decide +kernel
theorem dX6_best_16 : decode cX6_best 16 = .ok (.istore_n 3, 1) := by decide +kernel
theorem dX6_best_17 : decode cX6_best 17 = .ok (.iload_n 3, 1) := by decide +kernel
theorem dX6_best_18 : decode cX6_best 18 = .ok (.bipush 7, 2) := by decide +kernel
theorem dX6_best_20 : decode cX6_best 20 = .ok (.if_icmp .gt 120, 3) := by decide +kernel
theorem dX6_best_23 : decode cX6_best 23 = .ok (.iload_n 2, 1) := by decide +kernel
theorem dX6_best_24 : decode cX6_best 24 = .ok (.iload_n 1, 1) := by decide +kernel
theorem dX6_best_25 : decode cX6_best 25 = .ok (.if_icmp .ne 7, 3) := by decide +kernel
theorem dX6_best_28 : decode cX6_best 28 = .ok (.iconst 0, 1) := by decide +kernel
theorem dX6_best_29 : decode cX6_best 29 = .ok (.goto 6, 3) := by decide +kernel
theorem dX6_best_32 : decode cX6_best 32 = .ok (.sipush 1000, 3) := by decide +kernel
theorem dX6_best_35 : decode cX6_best 35 = .ok (.istore 4, 2) := by decide +kernel
theorem dX6_best_37 : decode cX6_best 37 = .ok (.iconst 0, 1) := by decide +kernel
theorem dX6_best_38 : decode cX6_best 38 = .ok (.istore 5, 2) := by decide +kernel
theorem dX6_best_40 : decode cX6_best 40 = .ok (.iload 5, 2) := by decide +kernel
theorem dX6_best_42 : decode cX6_best 42 = .ok (.aload_n 0, 1) := by decide +kernel
theorem dX6_best_43 : decode cX6_best 43 = .ok (.getfield 157, 3) := by decide +kernel
theorem dX6_best_46 : decode cX6_best 46 = .ok (.if_icmp .ge 75, 3) := by decide +kernel
theorem dX6_best_49 : decode cX6_best 49 = .ok (.iload_n 3, 1) := by decide +kernel
theorem dX6_best_50 : decode cX6_best 50 = .ok (.aload_n 0, 1) := by decide +kernel
theorem dX6_best_51 : decode cX6_best 51 = .ok (.getfield 157, 3) := by decide +kernel
theorem dX6_best_54 : decode cX6_best 54 = .ok (.if_icmp .lt 9, 3) := by decide +kernel
theorem dX6_best_57 : decode cX6_best 57 = .ok (.iload_n 3, 1) := by decide +kernel
theorem dX6_best_58 : decode cX6_best 58 = .ok (.bipush 7, 2) := by decide +kernel
theorem dX6_best_60 : decode cX6_best 60 = .ok (.if_icmp .ne 61, 3) := by decide +kernel
theorem dX6_best_63 : decode cX6_best 63 = .ok (.iload_n 2, 1) := by decide +kernel
theorem dX6_best_64 : decode cX6_best 64 = .ok (.iload 5, 2) := by decide +kernel
theorem dX6_best_66 : decode cX6_best 66 = .ok (.ishr, 1) := by decide +kernel
theorem dX6_best_67 : decode cX6_best 67 = .ok (.iconst 1, 1) := by decide +kernel
theorem dX6_best_68 : decode cX6_best 68 = .ok (.iand, 1) := by decide +kernel
theorem dX6_best_69 : decode cX6_best 69 = .ok (.ifCond .ne 46, 3) := by decide +kernel
theorem dX6_best_72 : decode cX6_best 72 = .ok (.aload_n 0, 1) := by decide +kernel
theorem dX6_best_73 : decode cX6_best 73 = .ok (.iload_n 3, 1) := by decide +kernel
theorem dX6_best_74 : decode cX6_best 74 = .ok (.iload 5, 2) := by decide +kernel
theorem dX6_best_76 : decode cX6_best 76 = .ok (.invokevirtual 160, 3) := by decide +kernel
theorem dX6_best_79 : decode cX6_best 79 = .ok (.aload_n 0, 1) := by decide +kernel
theorem dX6_best_80 : decode cX6_best 80 = .ok (.getfield 83, 3) := by decide +kernel
theorem dX6_best_83 : decode cX6_best 83 = .ok (.bipush 8, 2) := by decide +kernel
theorem dX6_best_85 : decode cX6_best 85 = .ok (.iload_n 2, 1) := by decide +kernel
theorem dX6_best_86 : decode cX6_best 86 = .ok (.iconst 1, 1) := by decide +kernel
theorem dX6_best_87 : decode cX6_best 87 = .ok (.iload 5, 2) := by decide +kernel
theorem dX6_best_89 : decode cX6_best 89 = .ok (.ishl, 1) := by decide +kernel
theorem dX6_best_90 : decode cX6_best 90 = .ok (.ior, 1) := by decide +kernel
theorem dX6_best_91 : decode cX6_best 91 = .ok (.imul, 1) := by decide +kernel
theorem dX6_best_92 : decode cX6_best 92 = .ok (.iload 5, 2) := by decide +kernel
theorem dX6_best_94 : decode cX6_best 94 = .ok (.iadd, 1) := by decide +kernel
theorem dX6_best_95 : decode cX6_best 95 = .ok (.iaload, 1) := by decide +kernel
theorem dX6_best_96 : decode cX6_best 96 = .ok (.iadd, 1) := by decide +kernel
theorem dX6_best_97 : decode cX6_best 97 = .ok (.istore 6, 2) := by decide +kernel
theorem dX6_best_99 : decode cX6_best 99 = .ok (.iload 6, 2) := by decide +kernel
theorem dX6_best_101 : decode cX6_best 101 = .ok (.iload 4, 2) := by decide +kernel
theorem dX6_best_103 : decode cX6_best 103 = .ok (.if_icmp .ge 8, 3) := by decide +kernel
theorem dX6_best_106 : decode cX6_best 106 = .ok (.iload 6, 2) := by decide +kernel
theorem dX6_best_108 : decode cX6_best 108 = .ok (.goto 5, 3) := by decide +kernel
theorem dX6_best_111 : decode cX6_best 111 = .ok (.iload 4, 2) := by decide +kernel
theorem dX6_best_113 : decode cX6_best 113 = .ok (.istore 4, 2) := by decide +kernel
theorem dX6_best_115 : decode cX6_best 115 = .ok (.iinc 5 1, 3) := by decide +kernel
theorem dX6_best_118 : decode cX6_best 118 = .ok (.goto (-78), 3) := by decide +kernel
theorem dX6_best_121 : decode cX6_best 121 = .ok (.aload_n 0, 1) := by decide +kernel
theorem dX6_best_122 : decode cX6_best 122 = .ok (.getfield 83, 3) := by decide +kernel
theorem dX6_best_125 : decode cX6_best 125 = .ok (.bipush 8, 2) := by decide +kernel
theorem dX6_best_127 : decode cX6_best 127 = .ok (.iload_n 2, 1) := by decide +kernel
theorem dX6_best_128 : decode cX6_best 128 = .ok (.imul, 1) := by decide +kernel
theorem dX6_best_129 : decode cX6_best 129 = .ok (.iload_n 3, 1) := by decide +kernel
theorem dX6_best_130 : decode cX6_best 130 = .ok (.iadd, 1) := by decide +kernel
theorem dX6_best_131 : decode cX6_best 131 = .ok (.iload 4, 2) := by decide +kernel
theorem dX6_best_133 : decode cX6_best 133 = .ok (.iastore, 1) := by decide +kernel
theorem dX6_best_134 : decode cX6_best 134 = .ok (.iinc 3 1, 3) := by decide +kernel
theorem dX6_best_137 : decode cX6_best 137 = .ok (.goto (-120), 3) := by decide +kernel
theorem dX6_best_140 : decode cX6_best 140 = .ok (.iinc 2 (-1), 3) := by decide +kernel
theorem dX6_best_143 : decode cX6_best 143 = .ok (.goto (-132), 3) := by decide +kernel
theorem dX6_best_146 : decode cX6_best 146 = .ok (.iconst 0, 1) := by decide +kernel
theorem dX6_best_147 : decode cX6_best 147 = .ok (.istore_n 2, 1) := by decide +kernel
theorem dX6_best_148 : decode cX6_best 148 = .ok (.bipush 7, 2) := by decide +kernel
theorem dX6_best_150 : decode cX6_best 150 = .ok (.istore_n 3, 1) := by decide +kernel
theorem dX6_best_151 : decode cX6_best 151 = .ok (.iconst 0, 1) := by decide +kernel
theorem dX6_best_152 : decode cX6_best 152 = .ok (.istore 4, 2) := by decide +kernel
theorem dX6_best_154 : decode cX6_best 154 = .ok (.iload 4, 2) := by decide +kernel
theorem dX6_best_156 : decode cX6_best 156 = .ok (.aload_n 0, 1) := by decide +kernel
theorem dX6_best_157 : decode cX6_best 157 = .ok (.getfield 157, 3) := by decide +kernel
theorem dX6_best_160 : decode cX6_best 160 = .ok (.if_icmp .ge 119, 3) := by decide +kernel
theorem dX6_best_163 : decode cX6_best 163 = .ok (.iconst (-1), 1) := by decide +kernel
theorem dX6_best_164 : decode cX6_best 164 = .ok (.istore 5, 2) := by decide +kernel
theorem dX6_best_166 : decode cX6_best 166 = .ok (.aload_n 0, 1) := by decide +kernel
theorem dX6_best_167 : decode cX6_best 167 = .ok (.getfield 157, 3) := by decide +kernel
theorem dX6_best_170 : decode cX6_best 170 = .ok (.iconst 1, 1) := by decide +kernel
theorem dX6_best_171 : decode cX6_best 171 = .ok (.isub, 1) := by decide +kernel
theorem dX6_best_172 : decode cX6_best 172 = .ok (.istore 6, 2) := by decide +kernel
theorem dX6_best_174 : decode cX6_best 174 = .ok (.iload 6, 2) := by decide +kernel
theorem dX6_best_176 : decode cX6_best 176 = .ok (.ifCond .lt 78, 3) := by decide +kernel
theorem dX6_best_179 : decode cX6_best 179 = .ok (.iload_n 2, 1) := by decide +kernel
theorem dX6_best_180 : decode cX6_best 180 = .ok (.iload 6, 2) := by decide +kernel
theorem dX6_best_182 : decode cX6_best 182 = .ok (.ishr, 1) := by decide +kernel
theorem dX6_best_183 : decode cX6_best 183 = .ok (.iconst 1, 1) := by decide +kernel
theorem dX6_best_184 : decode cX6_best 184 = .ok (.iand, 1) := by decide +kernel
theorem dX6_best_185 : decode cX6_best 185 = .ok (.ifCond .ne 46, 3) := by decide +kernel
theorem dX6_best_188 : decode cX6_best 188 = .ok (.aload_n 0, 1) := by decide +kernel
theorem dX6_best_189 : decode cX6_best 189 = .ok (.iload_n 3, 1) := by decide +kernel
theorem dX6_best_190 : decode cX6_best 190 = .ok (.iload 6, 2) := by decide +kernel
theorem dX6_best_192 : decode cX6_best 192 = .ok (.invokevirtual 160, 3) := by decide +kernel
