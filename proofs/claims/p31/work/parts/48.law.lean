set_option maxRecDepth 100000 in
set_option maxHeartbeats 4000000 in
theorem law_kind {l : Launch} {g : oG} {mc : Nat} {x : oCtx} {b : Nat} {σ : oMem} {k kn : Nat} {zz kd v wd : Int} (hfl : l.stackTraces = false) (C : oK l g RL cL_law 30 mc x) (hN : oNCx x) (h : J σ) (hk : k + 300 ≤ mc) (d0 : 0 ≤ kd) (d1 : kd ≤ 100) (v0 : 0 ≤ v) (v1 : v ≤ 2147483647) (w0 : 0 ≤ wd) (w1 : wd ≤ 1000) (K : ∀ (σ2 : oMem) (k2 : Nat), J σ2 → k2 ≤ k + 50 → oW l g x σ2 696 [some (.ref b), some (.ref (g.2.1 0 0)), some (.ref (g.2.1 24 0)), some (oi 1), some (oi (kn : Int)), some (oi zz), some (oi kd), some (oi v), some (oi wd)] [] k2) : oW l g x σ 129 [some (.ref b), some (.ref (g.2.1 0 0)), some (.ref (g.2.1 24 0)), some (oi 1), some (oi (kn : Int)), some (oi zz), some (oi kd), some (oi v), some (oi wd)] [] k := by
  refine o_iload (pc := 129) C dL_law_129 rfl ?_
  refine o_iconst (pc := 131) C dL_law_131 ?_
  refine o_icmp_ge (pc := 132) C (tgt := 230) dL_law_132 (by decide) (by omega) (by omega) (fun _ => ?_) (fun _ => ?_)
  rotate_left
  · refine o_aload_n (pc := 135) C dL_law_135 rfl ?_
    refine o_bipush (pc := 136) C dL_law_136 rfl ?_
    refine o_iload (pc := 138) C dL_law_138 rfl ?_
    refine o_sipush (pc := 140) C dL_law_140 rfl ?_
    refine o_irem (pc := 143) C dL_law_143 (by omega) (by omega) (by omega) (by omega) ?_
    refine o_iadd (pc := 144) C dL_law_144 ?_
    refine o_iconst (pc := 145) C dL_law_145 ?_
    refine o_iload (pc := 146) C dL_law_146 rfl ?_
    refine o_sipush (pc := 148) C dL_law_148 rfl ?_
    refine o_idiv (pc := 151) C dL_law_151 (by omega) (by omega) (by omega) (by omega) ?_
    refine o_sipush (pc := 152) C dL_law_152 rfl ?_
    refine o_irem (pc := 155) C dL_law_155 (by omega) (by omega) (by omega) (by omega) ?_
    refine o_iadd (pc := 156) C dL_law_156 ?_
    refine o_bipush (pc := 157) C dL_law_157 rfl ?_
    refine o_iload (pc := 159) C dL_law_159 rfl ?_
    refine o_bipush (pc := 161) C dL_law_161 rfl ?_
    refine o_irem (pc := 163) C dL_law_163 (by omega) (by omega) (by omega) (by omega) ?_
    refine o_iadd (pc := 164) C dL_law_164 ?_
    refine o_iconst (pc := 165) C dL_law_165 ?_
    refine o_iload (pc := 166) C dL_law_166 rfl ?_
    refine o_iconst (pc := 168) C dL_law_168 ?_
    refine o_idiv (pc := 169) C dL_law_169 (by omega) (by omega) (by omega) (by omega) ?_
    refine o_iconst (pc := 170) C dL_law_170 ?_
    refine o_irem (pc := 171) C dL_law_171 (by omega) (by omega) (by omega) (by omega) ?_
    refine o_iadd (pc := 172) C dL_law_172 ?_
    refine o_callSXh (pc := 173) (n := 5) (As := [.ref (g.2.1 0 0), oi ((100 + (v % 500))), oi ((1 + ((v / 500) % 9000))), oi ((10 + (v % 80))), oi ((1 + ((v / 3) % 4)))]) (rest := []) hN C (c_L_coil hfl h.2.1.1 (by omega) (by omega) (by omega) (by omega)) kw_6_16 kw_6_17 kw_4_14 kw_6_18 (by decide +kernel) (by decide) (by omega) (by omega) rfl (Nat.le_of_ble_eq_true rfl) dL_law_173 (fun z1 s1 A1 => ?_)
    refine o_aload_n (pc := 176) C dL_law_176 rfl ?_
    refine o_bipush (pc := 177) C dL_law_177 rfl ?_
    refine o_iload (pc := 179) C dL_law_179 rfl ?_
    refine o_sipush (pc := 181) C dL_law_181 rfl ?_
    refine o_irem (pc := 184) C dL_law_184 (by omega) (by omega) (by omega) (by omega) ?_
    refine o_iadd (pc := 185) C dL_law_185 ?_
    refine o_iconst (pc := 186) C dL_law_186 ?_
    refine o_iload (pc := 187) C dL_law_187 rfl ?_
    refine o_sipush (pc := 189) C dL_law_189 rfl ?_
    refine o_idiv (pc := 192) C dL_law_192 (by omega) (by omega) (by omega) (by omega) ?_
    refine o_sipush (pc := 193) C dL_law_193 rfl ?_
    refine o_irem (pc := 196) C dL_law_196 (by omega) (by omega) (by omega) (by omega) ?_
    refine o_iadd (pc := 197) C dL_law_197 ?_
    refine o_bipush (pc := 198) C dL_law_198 rfl ?_
    refine o_iload (pc := 200) C dL_law_200 rfl ?_
    refine o_bipush (pc := 202) C dL_law_202 rfl ?_
    refine o_irem (pc := 204) C dL_law_204 (by omega) (by omega) (by omega) (by omega) ?_
    refine o_iadd (pc := 205) C dL_law_205 ?_
    refine o_bipush (pc := 206) C dL_law_206 rfl ?_
    refine o_iload (pc := 208) C dL_law_208 rfl ?_
    refine o_iconst (pc := 210) C dL_law_210 ?_
    refine o_idiv (pc := 211) C dL_law_211 (by omega) (by omega) (by omega) (by omega) ?_
    refine o_iconst (pc := 212) C dL_law_212 ?_
    refine o_irem (pc := 213) C dL_law_213 (by omega) (by omega) (by omega) (by omega) ?_
    refine o_isub (pc := 214) C dL_law_214 ?_
    refine oW_sw ?_
    refine o_callSXh (g := swg g) (pc := 215) (n := 5) (As := [.ref ((swg g).2.1 0 0), oi ((100 + (v % 500))), oi ((1 + ((v / 500) % 9000))), oi ((10 + (v % 80))), oi ((99 - ((v / 3) % 4)))]) (rest := [oi z1]) hN C.sw (c_L_coil hfl (JX_coil h A1) (by omega) (by omega) (by omega) (by omega)) kw_6_16 kw_6_17 kw_4_14 kw_6_18 (by decide +kernel) (by decide) (by omega) (by omega) rfl (Nat.le_of_ble_eq_true rfl) dL_law_215 (fun y2 t2 B2 => oW_ws ?_)
    rw [show ((99 - ((v / 3) % 4)) : Int) = 100 - (1 + ((v / 3) % 4)) by omega] at B2
    obtain ⟨e2, h2⟩ := JP_coil h (by omega) A1 B2
    subst e2
    refine o_ne_same (pc := 218) C (tgt := 225) dL_law_218 (by decide) ?_
    refine o_iconst (pc := 221) C dL_law_221 ?_
    refine o_goto (pc := 222) C (tgt := 226) dL_law_222 (by decide) ?_
    refine sti_3 (pc := 226) C dL_law_226 ?_
    refine o_goto (pc := 227) C (tgt := 696) dL_law_227 (by decide) ?_
    exact K _ _ h2 (by omega)
  refine o_iload (pc := 230) C dL_law_230 rfl ?_
  refine o_iconst (pc := 232) C dL_law_232 ?_
  refine o_icmp_ge (pc := 233) C (tgt := 284) dL_law_233 (by decide) (by omega) (by omega) (fun _ => ?_) (fun _ => ?_)
  rotate_left
  · refine o_aload_n (pc := 236) C dL_law_236 rfl ?_
    refine o_iconst (pc := 237) C dL_law_237 ?_
    refine o_iload (pc := 238) C dL_law_238 rfl ?_
    refine o_iconst (pc := 240) C dL_law_240 ?_
    refine o_iload (pc := 241) C dL_law_241 rfl ?_
    refine o_iconst (pc := 243) C dL_law_243 ?_
    refine o_idiv (pc := 244) C dL_law_244 (by omega) (by omega) (by omega) (by omega) ?_
    refine o_sipush (pc := 245) C dL_law_245 rfl ?_
    refine o_irem (pc := 248) C dL_law_248 (by omega) (by omega) (by omega) (by omega) ?_
    refine o_iadd (pc := 249) C dL_law_249 ?_
    refine o_iconst (pc := 250) C dL_law_250 ?_
    refine o_callSXh (pc := 251) (n := 5) (As := [.ref (g.2.1 0 0), oi 1, oi (wd), oi ((1 + ((v / 5) % 3000))), oi (0)]) (rest := []) hN C (c_L_sets_1 hfl h.2.1.1 (by omega) (by omega)) kw_4_12 kw_4_13 kw_4_14 kw_4_15 (by decide +kernel) (by decide) (by omega) (by omega) rfl (Nat.le_of_ble_eq_true rfl) dL_law_251 (fun z1 s1 A1 => ?_)
    refine o_aload_n (pc := 254) C dL_law_254 rfl ?_
    refine o_iconst (pc := 255) C dL_law_255 ?_
    refine o_iload (pc := 256) C dL_law_256 rfl ?_
    refine o_iconst (pc := 258) C dL_law_258 ?_
    refine o_iload (pc := 259) C dL_law_259 rfl ?_
    refine o_iconst (pc := 261) C dL_law_261 ?_
    refine o_idiv (pc := 262) C dL_law_262 (by omega) (by omega) (by omega) (by omega) ?_
    refine o_sipush (pc := 263) C dL_law_263 rfl ?_
    refine o_irem (pc := 266) C dL_law_266 (by omega) (by omega) (by omega) (by omega) ?_
    refine o_iadd (pc := 267) C dL_law_267 ?_
    refine o_iconst (pc := 268) C dL_law_268 ?_
    refine oW_sw ?_
    refine o_callSXh (g := swg g) (pc := 269) (n := 5) (As := [.ref ((swg g).2.1 0 0), oi 1, oi (wd), oi ((1 + ((v / 5) % 3000))), oi (0)]) (rest := [oi z1]) hN C.sw (c_L_sets_1 hfl (JX_order h A1) (by omega) (by omega)) kw_4_12 kw_4_13 kw_4_14 kw_4_15 (by decide +kernel) (by decide) (by omega) (by omega) rfl (Nat.le_of_ble_eq_true rfl) dL_law_269 (fun y2 t2 B2 => oW_ws ?_)
    obtain ⟨e2, h2⟩ := JP_order h A1 B2
    subst e2
    refine o_ne_same (pc := 272) C (tgt := 279) dL_law_272 (by decide) ?_
    refine o_iconst (pc := 275) C dL_law_275 ?_
    refine o_goto (pc := 276) C (tgt := 280) dL_law_276 (by decide) ?_
    refine sti_3 (pc := 280) C dL_law_280 ?_
    refine o_goto (pc := 281) C (tgt := 696) dL_law_281 (by decide) ?_
    exact K _ _ h2 (by omega)
  refine o_iload (pc := 284) C dL_law_284 rfl ?_
  refine o_bipush (pc := 286) C dL_law_286 rfl ?_
  refine o_icmp_ge (pc := 288) C (tgt := 321) dL_law_288 (by decide) (by omega) (by omega) (fun _ => ?_) (fun _ => ?_)
  rotate_left
  · refine o_aload_n (pc := 291) C dL_law_291 rfl ?_
    refine o_iconst (pc := 292) C dL_law_292 ?_
    refine o_iload (pc := 293) C dL_law_293 rfl ?_
    refine o_iconst (pc := 295) C dL_law_295 ?_
    refine o_iconst (pc := 296) C dL_law_296 ?_
    refine o_callSXh (pc := 297) (n := 5) (As := [.ref (g.2.1 0 0), oi 0, oi (wd), oi (0), oi (0)]) (rest := []) hN C (c_L_sets_0 hfl h.2.1.1 (by omega)) kw_4_12 kw_4_13 kw_4_14 kw_4_15 (by decide +kernel) (by decide) (by omega) (by omega) rfl (Nat.le_of_ble_eq_true rfl) dL_law_297 (fun z1 s1 A1 => ?_)
    refine o_aload_n (pc := 300) C dL_law_300 rfl ?_
    refine o_iconst (pc := 301) C dL_law_301 ?_
    refine o_iload (pc := 302) C dL_law_302 rfl ?_
    refine o_iconst (pc := 304) C dL_law_304 ?_
    refine o_iconst (pc := 305) C dL_law_305 ?_
    refine oW_sw ?_
    refine o_callSXh (g := swg g) (pc := 306) (n := 5) (As := [.ref ((swg g).2.1 0 0), oi 0, oi (wd), oi (0), oi (0)]) (rest := [oi z1]) hN C.sw (c_L_sets_0 hfl (JX_addSlit h A1) (by omega)) kw_4_12 kw_4_13 kw_4_14 kw_4_15 (by decide +kernel) (by decide) (by omega) (by omega) rfl (Nat.le_of_ble_eq_true rfl) dL_law_306 (fun y2 t2 B2 => oW_ws ?_)
    obtain ⟨e2, h2⟩ := JP_addSlit h A1 B2
    subst e2
    refine o_ne_same (pc := 309) C (tgt := 316) dL_law_309 (by decide) ?_
    refine o_iconst (pc := 312) C dL_law_312 ?_
    refine o_goto (pc := 313) C (tgt := 317) dL_law_313 (by decide) ?_
    refine sti_3 (pc := 317) C dL_law_317 ?_
    refine o_goto (pc := 318) C (tgt := 696) dL_law_318 (by decide) ?_
    exact K _ _ h2 (by omega)
  refine o_iload (pc := 321) C dL_law_321 rfl ?_
  refine o_bipush (pc := 323) C dL_law_323 rfl ?_
  refine o_icmp_ne (pc := 325) C (tgt := 356) dL_law_325 (by decide) (by omega) (by omega) (fun _ => ?_) (fun _ => ?_)
  rotate_left
  · refine o_aload_n (pc := 328) C dL_law_328 rfl ?_
    refine o_iconst (pc := 329) C dL_law_329 ?_
    refine o_iconst (pc := 330) C dL_law_330 ?_
    refine o_iconst (pc := 331) C dL_law_331 ?_
    refine o_iconst (pc := 332) C dL_law_332 ?_
    refine o_callSXh (pc := 333) (n := 5) (As := [.ref (g.2.1 0 0), oi 3, oi (0), oi (0), oi (0)]) (rest := []) hN C (c_L_sets_3 hfl h.2.1.1) kw_4_12 kw_4_13 kw_4_14 kw_4_15 (by decide +kernel) (by decide) (by omega) (by omega) rfl (Nat.le_of_ble_eq_true rfl) dL_law_333 (fun z1 s1 A1 => ?_)
    refine o_aload_n (pc := 336) C dL_law_336 rfl ?_
    refine o_iconst (pc := 337) C dL_law_337 ?_
    refine o_iconst (pc := 338) C dL_law_338 ?_
    refine o_iconst (pc := 339) C dL_law_339 ?_
    refine o_iconst (pc := 340) C dL_law_340 ?_
    refine oW_sw ?_
    refine o_callSXh (g := swg g) (pc := 341) (n := 5) (As := [.ref ((swg g).2.1 0 0), oi 3, oi (0), oi (0), oi (0)]) (rest := [oi z1]) hN C.sw (c_L_sets_3 hfl (JX_keep h A1)) kw_4_12 kw_4_13 kw_4_14 kw_4_15 (by decide +kernel) (by decide) (by omega) (by omega) rfl (Nat.le_of_ble_eq_true rfl) dL_law_341 (fun y2 t2 B2 => oW_ws ?_)
    obtain ⟨e2, h2⟩ := JP_keep h A1 B2
    subst e2
    refine o_ne_same (pc := 344) C (tgt := 351) dL_law_344 (by decide) ?_
    refine o_iconst (pc := 347) C dL_law_347 ?_
    refine o_goto (pc := 348) C (tgt := 352) dL_law_348 (by decide) ?_
    refine sti_3 (pc := 352) C dL_law_352 ?_
    refine o_goto (pc := 353) C (tgt := 696) dL_law_353 (by decide) ?_
    exact K _ _ h2 (by omega)
  refine o_iload (pc := 356) C dL_law_356 rfl ?_
  refine o_bipush (pc := 358) C dL_law_358 rfl ?_
  refine o_icmp_ne (pc := 360) C (tgt := 427) dL_law_360 (by decide) (by omega) (by omega) (fun _ => ?_) (fun _ => ?_)
  rotate_left
  · refine o_aload_n (pc := 363) C dL_law_363 rfl ?_
    refine o_iload (pc := 364) C dL_law_364 rfl ?_
    refine o_bipush (pc := 366) C dL_law_366 rfl ?_
    refine o_irem (pc := 368) C dL_law_368 (by omega) (by omega) (by omega) (by omega) ?_
    refine o_iload (pc := 369) C dL_law_369 rfl ?_
    refine o_bipush (pc := 371) C dL_law_371 rfl ?_
    refine o_idiv (pc := 373) C dL_law_373 (by omega) (by omega) (by omega) (by omega) ?_
    refine o_bipush (pc := 374) C dL_law_374 rfl ?_
    refine o_irem (pc := 376) C dL_law_376 (by omega) (by omega) (by omega) (by omega) ?_
    refine o_iload (pc := 377) C dL_law_377 rfl ?_
    refine o_sipush (pc := 379) C dL_law_379 rfl ?_
    refine o_idiv (pc := 382) C dL_law_382 (by omega) (by omega) (by omega) (by omega) ?_
    refine o_bipush (pc := 383) C dL_law_383 rfl ?_
    refine o_irem (pc := 385) C dL_law_385 (by omega) (by omega) (by omega) (by omega) ?_
    refine o_callSXh (pc := 386) (n := 4) (As := [.ref (g.2.1 0 0), oi ((v % 6)), oi (((v / 6) % 80)), oi (((v / 480) % 80))]) (rest := []) hN C (c_L_defect hfl h.2.1.1 (by omega) (by omega) (by omega)) kw_7_2 kw_7_3 kw_4_14 kw_7_4 (by decide +kernel) (by decide) (by omega) (by omega) rfl (Nat.le_of_ble_eq_true rfl) dL_law_386 (fun z1 s1 A1 => ?_)
    refine o_aload_n (pc := 389) C dL_law_389 rfl ?_
    refine o_iload (pc := 390) C dL_law_390 rfl ?_
    refine o_bipush (pc := 392) C dL_law_392 rfl ?_
    refine o_irem (pc := 394) C dL_law_394 (by omega) (by omega) (by omega) (by omega) ?_
    refine o_iload (pc := 395) C dL_law_395 rfl ?_
    refine o_bipush (pc := 397) C dL_law_397 rfl ?_
    refine o_idiv (pc := 399) C dL_law_399 (by omega) (by omega) (by omega) (by omega) ?_
    refine o_bipush (pc := 400) C dL_law_400 rfl ?_
    refine o_irem (pc := 402) C dL_law_402 (by omega) (by omega) (by omega) (by omega) ?_
    refine o_iload (pc := 403) C dL_law_403 rfl ?_
    refine o_sipush (pc := 405) C dL_law_405 rfl ?_
    refine o_idiv (pc := 408) C dL_law_408 (by omega) (by omega) (by omega) (by omega) ?_
    refine o_bipush (pc := 409) C dL_law_409 rfl ?_
    refine o_irem (pc := 411) C dL_law_411 (by omega) (by omega) (by omega) (by omega) ?_
    refine oW_sw ?_
    refine o_callSXh (g := swg g) (pc := 412) (n := 4) (As := [.ref ((swg g).2.1 0 0), oi ((v % 6)), oi (((v / 6) % 80)), oi (((v / 480) % 80))]) (rest := [oi z1]) hN C.sw (c_L_defect hfl (JX_defect h A1) (by omega) (by omega) (by omega)) kw_7_2 kw_7_3 kw_4_14 kw_7_4 (by decide +kernel) (by decide) (by omega) (by omega) rfl (Nat.le_of_ble_eq_true rfl) dL_law_412 (fun y2 t2 B2 => oW_ws ?_)
    obtain ⟨e2, h2⟩ := JP_defect h A1 B2
    subst e2
    refine o_ne_same (pc := 415) C (tgt := 422) dL_law_415 (by decide) ?_
    refine o_iconst (pc := 418) C dL_law_418 ?_
    refine o_goto (pc := 419) C (tgt := 423) dL_law_419 (by decide) ?_
    refine sti_3 (pc := 423) C dL_law_423 ?_
    refine o_goto (pc := 424) C (tgt := 696) dL_law_424 (by decide) ?_
    exact K _ _ h2 (by omega)
  refine o_iload (pc := 427) C dL_law_427 rfl ?_
  refine o_bipush (pc := 429) C dL_law_429 rfl ?_
  refine o_icmp_ge (pc := 431) C (tgt := 489) dL_law_431 (by decide) (by omega) (by omega) (fun _ => ?_) (fun _ => ?_)
  rotate_left
  · refine o_aload_n (pc := 434) C dL_law_434 rfl ?_
    refine o_iconst (pc := 435) C dL_law_435 ?_
    refine o_iload (pc := 436) C dL_law_436 rfl ?_
    refine o_bipush (pc := 438) C dL_law_438 rfl ?_
    refine o_irem (pc := 440) C dL_law_440 (by omega) (by omega) (by omega) (by omega) ?_
    refine o_callSXh (pc := 441) (n := 3) (As := [.ref (g.2.1 0 0), oi 1, oi ((v % 6))]) (rest := []) hN C (c_L_of_1 hfl h.2.1.1 (by omega)) kw_8_13 kw_8_14 kw_4_14 kw_8_15 (by decide +kernel) (by decide) (by omega) (by omega) rfl (Nat.le_of_ble_eq_true rfl) dL_law_441 (fun z1 s1 A1 => ?_)
    refine o_aload_n (pc := 444) C dL_law_444 rfl ?_
    refine o_iconst (pc := 445) C dL_law_445 ?_
    refine o_iload (pc := 446) C dL_law_446 rfl ?_
    refine o_bipush (pc := 448) C dL_law_448 rfl ?_
    refine o_irem (pc := 450) C dL_law_450 (by omega) (by omega) (by omega) (by omega) ?_
    refine oW_sw ?_
    refine o_callSXh (g := swg g) (pc := 451) (n := 3) (As := [.ref ((swg g).2.1 0 0), oi 1, oi ((v % 6))]) (rest := [oi z1]) hN C.sw (c_L_of_1 hfl (JX_fullestByTrying h A1) (by omega)) kw_8_13 kw_8_14 kw_4_14 kw_8_15 (by decide +kernel) (by decide) (by omega) (by omega) rfl (Nat.le_of_ble_eq_true rfl) dL_law_451 (fun y2 t2 B2 => oW_ws ?_)
    obtain ⟨e2, h2⟩ := JP_fullestByTrying h A1 B2
    subst e2
    refine o_ne_same (pc := 454) C (tgt := 484) dL_law_454 (by decide) ?_
    refine o_aload_n (pc := 457) C dL_law_457 rfl ?_
    refine o_iconst (pc := 458) C dL_law_458 ?_
    refine o_iload (pc := 459) C dL_law_459 rfl ?_
    refine o_bipush (pc := 461) C dL_law_461 rfl ?_
    refine o_irem (pc := 463) C dL_law_463 (by omega) (by omega) (by omega) (by omega) ?_
    refine o_callSXh (pc := 464) (n := 3) (As := [.ref (g.2.1 0 0), oi 0, oi ((v % 6))]) (rest := []) hN C (c_L_of_0 hfl h2.2.1.1 (by omega)) kw_8_13 kw_8_14 kw_4_14 kw_8_15 (by decide +kernel) (by decide) (by omega) (by omega) rfl (Nat.le_of_ble_eq_true rfl) dL_law_464 (fun z3 s3 A3 => ?_)
    refine o_aload_n (pc := 467) C dL_law_467 rfl ?_
    refine o_iconst (pc := 468) C dL_law_468 ?_
    refine o_iload (pc := 469) C dL_law_469 rfl ?_
    refine o_bipush (pc := 471) C dL_law_471 rfl ?_
    refine o_irem (pc := 473) C dL_law_473 (by omega) (by omega) (by omega) (by omega) ?_
    refine oW_sw ?_
    refine o_callSXh (g := swg g) (pc := 474) (n := 3) (As := [.ref ((swg g).2.1 0 0), oi 0, oi ((v % 6))]) (rest := [oi z3]) hN C.sw (c_L_of_0 hfl (JX_fill h2 A3) (by omega)) kw_8_13 kw_8_14 kw_4_14 kw_8_15 (by decide +kernel) (by decide) (by omega) (by omega) rfl (Nat.le_of_ble_eq_true rfl) dL_law_474 (fun y4 t4 B4 => oW_ws ?_)
    obtain ⟨e4, h4⟩ := JP_fill h2 A3 B4
    subst e4
    refine o_ne_same (pc := 477) C (tgt := 484) dL_law_477 (by decide) ?_
    refine o_iconst (pc := 480) C dL_law_480 ?_
    refine o_goto (pc := 481) C (tgt := 485) dL_law_481 (by decide) ?_
    refine sti_3 (pc := 485) C dL_law_485 ?_
    refine o_goto (pc := 486) C (tgt := 696) dL_law_486 (by decide) ?_
    exact K _ _ h4 (by omega)
  refine o_iload (pc := 489) C dL_law_489 rfl ?_
  refine o_bipush (pc := 491) C dL_law_491 rfl ?_
  refine o_icmp_ge (pc := 493) C (tgt := 542) dL_law_493 (by decide) (by omega) (by omega) (fun _ => ?_) (fun _ => ?_)
  rotate_left
  · refine o_aload_n (pc := 496) C dL_law_496 rfl ?_
    refine o_iconst (pc := 497) C dL_law_497 ?_
    refine o_iload (pc := 498) C dL_law_498 rfl ?_
    refine o_bipush (pc := 500) C dL_law_500 rfl ?_
    refine o_irem (pc := 502) C dL_law_502 (by omega) (by omega) (by omega) (by omega) ?_
    refine o_iload (pc := 503) C dL_law_503 rfl ?_
    refine o_bipush (pc := 505) C dL_law_505 rfl ?_
    refine o_idiv (pc := 507) C dL_law_507 (by omega) (by omega) (by omega) (by omega) ?_
    refine o_iconst (pc := 508) C dL_law_508 ?_
    refine o_irem (pc := 509) C dL_law_509 (by omega) (by omega) (by omega) (by omega) ?_
    refine o_callSXh (pc := 510) (n := 4) (As := [.ref (g.2.1 0 0), oi 0, oi ((v % 6)), oi (((v / 6) % 5))]) (rest := []) hN C (c_L_with_0 hfl h.2.1.1 (by omega) (by omega)) kw_14_4 kw_14_5 kw_4_14 kw_14_6 (by decide +kernel) (by decide) (by omega) (by omega) rfl (Nat.le_of_ble_eq_true rfl) dL_law_510 (fun z1 s1 A1 => ?_)
    refine o_aload_n (pc := 513) C dL_law_513 rfl ?_
    refine o_iconst (pc := 514) C dL_law_514 ?_
    refine o_iload (pc := 515) C dL_law_515 rfl ?_
    refine o_bipush (pc := 517) C dL_law_517 rfl ?_
    refine o_irem (pc := 519) C dL_law_519 (by omega) (by omega) (by omega) (by omega) ?_
    refine o_iload (pc := 520) C dL_law_520 rfl ?_
    refine o_bipush (pc := 522) C dL_law_522 rfl ?_
    refine o_idiv (pc := 524) C dL_law_524 (by omega) (by omega) (by omega) (by omega) ?_
    refine o_iconst (pc := 525) C dL_law_525 ?_
    refine o_irem (pc := 526) C dL_law_526 (by omega) (by omega) (by omega) (by omega) ?_
    refine oW_sw ?_
    refine o_callSXh (g := swg g) (pc := 527) (n := 4) (As := [.ref ((swg g).2.1 0 0), oi 0, oi ((v % 6)), oi (((v / 6) % 5))]) (rest := [oi z1]) hN C.sw (c_L_with_0 hfl (JX_run h A1) (by omega) (by omega)) kw_14_4 kw_14_5 kw_4_14 kw_14_6 (by decide +kernel) (by decide) (by omega) (by omega) rfl (Nat.le_of_ble_eq_true rfl) dL_law_527 (fun y2 t2 B2 => oW_ws ?_)
    obtain ⟨e2, h2⟩ := JP_run h A1 B2
    subst e2
    refine o_ne_same (pc := 530) C (tgt := 537) dL_law_530 (by decide) ?_
    refine o_iconst (pc := 533) C dL_law_533 ?_
    refine o_goto (pc := 534) C (tgt := 538) dL_law_534 (by decide) ?_
    refine sti_3 (pc := 538) C dL_law_538 ?_
    refine o_goto (pc := 539) C (tgt := 696) dL_law_539 (by decide) ?_
    exact K _ _ h2 (by omega)
  refine o_iload (pc := 542) C dL_law_542 rfl ?_
  refine o_bipush (pc := 544) C dL_law_544 rfl ?_
  refine o_icmp_ge (pc := 546) C (tgt := 603) dL_law_546 (by decide) (by omega) (by omega) (fun _ => ?_) (fun _ => ?_)
  rotate_left
  · refine o_aload_n (pc := 549) C dL_law_549 rfl ?_
    refine o_callVi (pc := 550) (n := 0) (As := []) (K := 0) (i := 0) (rest := []) C (c_X5_waiting) kw_16_9 kw_16_10 kw_16_11 kw_1_2 kw_16_12 (by decide) ⟨_, _, _, rfl, rfl, rfl⟩ (by decide +kernel) (by decide) (by omega) (by omega) rfl (Nat.le_of_ble_eq_true rfl) dL_law_550 (fun z1 s1 A1 => ?_)
    have hz := wait_in h.2.1 A1
    have es := A1.2
    rw [es]
    refine o_iconst (pc := 553) C dL_law_553 ?_
    refine o_icmp_gt (pc := 554) C (tgt := 594) dL_law_554 (by decide) (by omega) (by omega) (fun _ => ?_) (fun _ => ?_)
    · refine o_iconst (pc := 594) C dL_law_594 ?_
      refine o_goto (pc := 595) C (tgt := 599) dL_law_595 (by decide) ?_
      refine sti_3 (pc := 599) C dL_law_599 ?_
      refine o_goto (pc := 600) C (tgt := 696) dL_law_600 (by decide) ?_
      exact K _ _ h (by omega)
    · refine o_aload_n (pc := 557) C dL_law_557 rfl ?_
      refine o_iconst (pc := 558) C dL_law_558 ?_
      refine o_iload (pc := 559) C dL_law_559 rfl ?_
      refine o_bipush (pc := 561) C dL_law_561 rfl ?_
      refine o_irem (pc := 563) C dL_law_563 (by omega) (by omega) (by omega) (by omega) ?_
      refine o_iload (pc := 564) C dL_law_564 rfl ?_
      refine o_bipush (pc := 566) C dL_law_566 rfl ?_
      refine o_idiv (pc := 568) C dL_law_568 (by omega) (by omega) (by omega) (by omega) ?_
      refine o_iconst (pc := 569) C dL_law_569 ?_
      refine o_irem (pc := 570) C dL_law_570 (by omega) (by omega) (by omega) (by omega) ?_
      refine o_callSXh (pc := 571) (n := 4) (As := [.ref (g.2.1 0 0), oi 1, oi ((v % 6)), oi (((v / 6) % 5))]) (rest := []) hN C (c_L_with_1 hfl h.2.1.1 (by omega) (by omega)) kw_14_4 kw_14_5 kw_4_14 kw_14_6 (by decide +kernel) (by decide) (by omega) (by omega) rfl (Nat.le_of_ble_eq_true rfl) dL_law_571 (fun z21 s21 A21 => ?_)
      refine o_aload_n (pc := 574) C dL_law_574 rfl ?_
      refine o_iconst (pc := 575) C dL_law_575 ?_
      refine o_iload (pc := 576) C dL_law_576 rfl ?_
      refine o_bipush (pc := 578) C dL_law_578 rfl ?_
      refine o_irem (pc := 580) C dL_law_580 (by omega) (by omega) (by omega) (by omega) ?_
      refine o_iload (pc := 581) C dL_law_581 rfl ?_
      refine o_bipush (pc := 583) C dL_law_583 rfl ?_
      refine o_idiv (pc := 585) C dL_law_585 (by omega) (by omega) (by omega) (by omega) ?_
      refine o_iconst (pc := 586) C dL_law_586 ?_
      refine o_irem (pc := 587) C dL_law_587 (by omega) (by omega) (by omega) (by omega) ?_
      refine oW_sw ?_
      refine o_callSXh (g := swg g) (pc := 588) (n := 4) (As := [.ref ((swg g).2.1 0 0), oi 1, oi ((v % 6)), oi (((v / 6) % 5))]) (rest := [oi z21]) hN C.sw (c_L_with_1 hfl (JX_plan h A21) (by omega) (by omega)) kw_14_4 kw_14_5 kw_4_14 kw_14_6 (by decide +kernel) (by decide) (by omega) (by omega) rfl (Nat.le_of_ble_eq_true rfl) dL_law_588 (fun y22 t22 B22 => oW_ws ?_)
      obtain ⟨e22, h22⟩ := JP_plan h A21 B22
      subst e22
      refine o_ne_same (pc := 591) C (tgt := 598) dL_law_591 (by decide) ?_
      refine o_iconst (pc := 594) C dL_law_594 ?_
      refine o_goto (pc := 595) C (tgt := 599) dL_law_595 (by decide) ?_
      refine sti_3 (pc := 599) C dL_law_599 ?_
      refine o_goto (pc := 600) C (tgt := 696) dL_law_600 (by decide) ?_
      exact K _ _ h22 (by omega)
  refine o_iload (pc := 603) C dL_law_603 rfl ?_
  refine o_iconst (pc := 605) C dL_law_605 ?_
  refine o_irem (pc := 606) C dL_law_606 (by omega) (by omega) (by omega) (by omega) ?_
  refine o_if_ne (pc := 607) C (tgt := 629) dL_law_607 (by decide) (by omega) (fun _ => ?_) (fun _ => ?_)
  · refine o_aload_n (pc := 629) C dL_law_629 rfl ?_
    refine o_iconst (pc := 630) C dL_law_630 ?_
    refine o_iload (pc := 631) C dL_law_631 rfl ?_
    refine o_bipush (pc := 633) C dL_law_633 rfl ?_
    refine o_irem (pc := 635) C dL_law_635 (by omega) (by omega) (by omega) (by omega) ?_
    refine o_iload (pc := 636) C dL_law_636 rfl ?_
    refine o_bipush (pc := 638) C dL_law_638 rfl ?_
    refine o_idiv (pc := 640) C dL_law_640 (by omega) (by omega) (by omega) (by omega) ?_
    refine o_bipush (pc := 641) C dL_law_641 rfl ?_
    refine o_irem (pc := 643) C dL_law_643 (by omega) (by omega) (by omega) (by omega) ?_
    refine o_iconst (pc := 644) C dL_law_644 ?_
    refine o_iload (pc := 645) C dL_law_645 rfl ?_
    refine o_sipush (pc := 647) C dL_law_647 rfl ?_
    refine o_idiv (pc := 650) C dL_law_650 (by omega) (by omega) (by omega) (by omega) ?_
    refine o_bipush (pc := 651) C dL_law_651 rfl ?_
    refine o_irem (pc := 653) C dL_law_653 (by omega) (by omega) (by omega) (by omega) ?_
    refine o_iadd (pc := 654) C dL_law_654 ?_
    refine o_callSXh (pc := 655) (n := 5) (As := [.ref (g.2.1 0 0), oi 2, oi ((v % 20)), oi (((v / 20) % 30)), oi ((3 + ((v / 600) % 6)))]) (rest := []) hN C (c_L_sets_2 hfl h.2.1.1 (by omega) (by omega) (by omega)) kw_4_12 kw_4_13 kw_4_14 kw_4_15 (by decide +kernel) (by decide) (by omega) (by omega) rfl (Nat.le_of_ble_eq_true rfl) dL_law_655 (fun z1 s1 A1 => ?_)
    refine o_aload_n (pc := 658) C dL_law_658 rfl ?_
    refine o_iconst (pc := 659) C dL_law_659 ?_
    refine o_iload (pc := 660) C dL_law_660 rfl ?_
    refine o_bipush (pc := 662) C dL_law_662 rfl ?_
    refine o_irem (pc := 664) C dL_law_664 (by omega) (by omega) (by omega) (by omega) ?_
    refine o_iload (pc := 665) C dL_law_665 rfl ?_
    refine o_bipush (pc := 667) C dL_law_667 rfl ?_
    refine o_idiv (pc := 669) C dL_law_669 (by omega) (by omega) (by omega) (by omega) ?_
    refine o_bipush (pc := 670) C dL_law_670 rfl ?_
    refine o_irem (pc := 672) C dL_law_672 (by omega) (by omega) (by omega) (by omega) ?_
    refine o_iconst (pc := 673) C dL_law_673 ?_
    refine o_iload (pc := 674) C dL_law_674 rfl ?_
    refine o_sipush (pc := 676) C dL_law_676 rfl ?_
    refine o_idiv (pc := 679) C dL_law_679 (by omega) (by omega) (by omega) (by omega) ?_
    refine o_bipush (pc := 680) C dL_law_680 rfl ?_
    refine o_irem (pc := 682) C dL_law_682 (by omega) (by omega) (by omega) (by omega) ?_
    refine o_iadd (pc := 683) C dL_law_683 ?_
    refine oW_sw ?_
    refine o_callSXh (g := swg g) (pc := 684) (n := 5) (As := [.ref ((swg g).2.1 0 0), oi 2, oi ((v % 20)), oi (((v / 20) % 30)), oi ((3 + ((v / 600) % 6)))]) (rest := [oi z1]) hN C.sw (c_L_sets_2 hfl (JX_setRules h A1) (by omega) (by omega) (by omega)) kw_4_12 kw_4_13 kw_4_14 kw_4_15 (by decide +kernel) (by decide) (by omega) (by omega) rfl (Nat.le_of_ble_eq_true rfl) dL_law_684 (fun y2 t2 B2 => oW_ws ?_)
    obtain ⟨e2, h2⟩ := JP_setRules h A1 B2
    subst e2
    refine o_ne_same (pc := 687) C (tgt := 694) dL_law_687 (by decide) ?_
    refine o_iconst (pc := 690) C dL_law_690 ?_
    refine o_goto (pc := 691) C (tgt := 695) dL_law_691 (by decide) ?_
    refine sti_3 (pc := 695) C dL_law_695 ?_
    exact K _ _ h2 (by omega)
  · refine o_aload_n (pc := 610) C dL_law_610 rfl ?_
    refine o_callVi (pc := 611) (n := 0) (As := []) (K := 0) (i := 0) (rest := []) C (c_X5_runAll h.2.1.1) kw_16_13 kw_16_14 kw_16_15 kw_1_2 kw_16_16 (by decide) ⟨_, _, _, rfl, rfl, rfl⟩ (by decide +kernel) (by decide) (by omega) (by omega) rfl (Nat.le_of_ble_eq_true rfl) dL_law_611 (fun z1 s1 A1 => ?_)
    refine o_aload_n (pc := 614) C dL_law_614 rfl ?_
    refine oW_sw ?_
    refine o_callVi (g := swg g) (pc := 615) (n := 0) (As := []) (K := 0) (i := 0) (rest := [oi z1]) C.sw (c_X5_runAll (JX_runAll h A1)) kw_16_13 kw_16_14 kw_16_15 kw_1_2 kw_16_16 (by decide) ⟨_, _, _, rfl, rfl, rfl⟩ (by decide +kernel) (by decide) (by omega) (by omega) rfl (Nat.le_of_ble_eq_true rfl) dL_law_615 (fun y2 t2 B2 => oW_ws ?_)
    obtain ⟨e2, h2⟩ := JP_runAll h A1 B2
    subst e2
    refine o_ne_same (pc := 618) C (tgt := 625) dL_law_618 (by decide) ?_
    refine o_iconst (pc := 621) C dL_law_621 ?_
    refine o_goto (pc := 622) C (tgt := 695) dL_law_622 (by decide) ?_
    refine sti_3 (pc := 695) C dL_law_695 ?_
    exact K _ _ h2 (by omega)
set_option maxRecDepth 100000 in
set_option maxHeartbeats 2000000 in
theorem law_loop {l : Launch} {g : oG} {mc : Nat} {x : oCtx} {b L : Nat} {xs : Nat → Int32} {k0 : Nat} (hfl : l.stackTraces = false) (C : oK l g RL cL_law 30 mc x) (S : oScr b L xs x) (hN : oNCx x) (hL : L ≤ 260) (hk0 : k0 + 300 * 112 ≤ mc) (hE : ∀ (σ : oMem) (vs : List (Option Value)) (k : Nat), k ≤ mc → oW l g x σ 728 vs [oi 1] k) : ∀ (n kn k : Nat) (σ : oMem) (v5 v6 v7 v8 : Option Value), kn + n = 110 → J σ → k ≤ k0 + 300 * kn → oW l g x σ 48 [some (.ref b), some (.ref (g.2.1 0 0)), some (.ref (g.2.1 24 0)), some (oi 1), some (oi (kn : Int)), v5, v6, v7, v8] [] k := by
  intro n
  induction n with
  | zero =>
    intro kn k σ v5 v6 v7 v8 a1 h a3
    refine o_iload (pc := 48) C dL_law_48 rfl ?_
    refine o_bipush (pc := 50) C dL_law_50 rfl ?_
    refine o_icmp_ge (pc := 52) C (tgt := 727) dL_law_52 (by decide) (by omega) (by omega) (fun _ => ?_) (fun q => by omega)
    refine o_iload_n (pc := 727) C dL_law_727 rfl ?_
    exact hE _ _ _ (by omega)
  | succ n ih =>
    intro kn k σ v5 v6 v7 v8 a1 h a3
    refine o_iload (pc := 48) C dL_law_48 rfl ?_
    refine o_bipush (pc := 50) C dL_law_50 rfl ?_
    refine o_icmp_ge (pc := 52) C (tgt := 727) dL_law_52 (by decide) (by omega) (by omega) (fun q => by omega) (fun _ => ?_)
    refine o_iload_n (pc := 55) C dL_law_55 rfl ?_
    refine o_if_eq (pc := 56) C (tgt := 727) dL_law_56 (by decide) (by decide) (fun q => absurd q (by decide)) (fun _ => ?_)
    refine o_aload_n (pc := 59) C dL_law_59 rfl ?_
    refine o_iload (pc := 60) C dL_law_60 rfl ?_
    refine o_bipush (pc := 62) C dL_law_62 rfl ?_
    refine o_irem (pc := 64) C dL_law_64 (by omega) (by omega) (by omega) (by omega) ?_
    rw [show ((kn : Int) % 55) = ((kn % 55 : Nat) : Int) by omega]
    refine o_callSS (pc := 65) (n := 2) (As := [.ref b, oi ((kn % 55 : Nat) : Int)]) (rest := []) S C (c_L_drawn (jn := kn % 55) (by omega) hL) kw_6_12 kw_6_13 kw_4_14 kw_6_14 rfl (by decide +kernel) (by decide) (by omega) (by omega) rfl (Nat.le_of_ble_eq_true rfl) dL_law_65 (fun D σ2 hD => ?_)
    obtain ⟨⟨d0, d1⟩, rfl⟩ := hD
    refine o_iconst (pc := 68) C dL_law_68 ?_
    refine o_iload (pc := 69) C dL_law_69 rfl ?_
    refine o_bipush (pc := 71) C dL_law_71 rfl ?_
    refine o_idiv (pc := 73) C dL_law_73 (by omega) (by omega) (by omega) (by omega) ?_
    refine o_iadd (pc := 74) C dL_law_74 ?_
    refine o_idiv (pc := 75) C dL_law_75 d0 (by omega) (by omega) (by omega) ?_
    refine o_bipush (pc := 76) C dL_law_76 rfl ?_
    refine o_iload (pc := 78) C dL_law_78 rfl ?_
    refine o_bipush (pc := 80) C dL_law_80 rfl ?_
    refine o_idiv (pc := 82) C dL_law_82 (by omega) (by omega) (by omega) (by omega) ?_
    refine o_imul (pc := 83) C dL_law_83 ?_
    refine o_iadd (pc := 84) C dL_law_84 ?_
    obtain ⟨zz, hz, z0, z1⟩ : ∃ zz : Int, D / (1 + (kn : Int) / 55) + 13 * ((kn : Int) / 55) = zz ∧ 0 ≤ zz ∧ zz ≤ 2147483647 := by
      rcases (show (kn : Int) / 55 = 0 ∨ (kn : Int) / 55 = 1 by omega) with q | q
      · exact ⟨_, rfl, by rw [q, show (1 + 0 : Int) = 1 from rfl]; omega, by rw [q, show (1 + 0 : Int) = 1 from rfl]; omega⟩
      · exact ⟨_, rfl, by rw [q, show (1 + 1 : Int) = 2 from rfl]; omega, by rw [q, show (1 + 1 : Int) = 2 from rfl]; omega⟩
    rw [hz]
    clear hz
    refine sti_5 (pc := 85) C dL_law_85 ?_
    have M : ∀ kd : Int, 0 ≤ kd → kd ≤ 100 → oW l g x σ2 108 [some (.ref b), some (.ref (g.2.1 0 0)), some (.ref (g.2.1 24 0)), some (oi 1), some (oi (kn : Int)), some (oi zz), v6, v7, v8] [oi kd] (k + 0) := by
      intro kd e0 e1
      refine sti_6 (pc := 108) C dL_law_108 ?_
      refine o_iload (pc := 110) C dL_law_110 rfl ?_
      refine o_bipush (pc := 112) C dL_law_112 rfl ?_
      refine o_idiv (pc := 114) C dL_law_114 (by omega) (by omega) (by omega) (by omega) ?_
      obtain ⟨v, hv, v0, v1⟩ : ∃ v : Int, zz / 16 = v ∧ 0 ≤ v ∧ v ≤ 2147483647 := ⟨_, rfl, by omega, by omega⟩
      rw [hv]
      clear hv
      refine sti_7 (pc := 115) C dL_law_115 ?_
      refine o_bipush (pc := 117) C dL_law_117 rfl ?_
      refine o_iload (pc := 119) C dL_law_119 rfl ?_
      refine o_iconst (pc := 121) C dL_law_121 ?_
      refine o_irem (pc := 122) C dL_law_122 (by omega) (by omega) (by omega) (by omega) ?_
      refine o_bipush (pc := 123) C dL_law_123 rfl ?_
      refine o_imul (pc := 125) C dL_law_125 ?_
      refine o_iadd (pc := 126) C dL_law_126 ?_
      obtain ⟨wd, hw, w0, w1⟩ : ∃ wd : Int, 20 + v % 5 * 35 = wd ∧ 0 ≤ wd ∧ wd ≤ 1000 := ⟨_, rfl, by omega, by omega⟩
      rw [hw]
      clear hw
      refine sti_8 (pc := 127) C dL_law_127 ?_
      refine law_kind hfl C hN h (by omega) e0 e1 v0 v1 w0 w1 (fun σ3 k3 h3 q3 => ?_)
      refine o_iload_n (pc := 696) C dL_law_696 rfl ?_
      refine o_if_eq (pc := 697) C (tgt := 719) dL_law_697 (by decide) (by decide) (fun q => absurd q (by decide)) (fun _ => ?_)
      refine o_aload_n (pc := 700) C dL_law_700 rfl ?_
      refine o_aload_n (pc := 701) C dL_law_701 rfl ?_
      refine o_iload (pc := 702) C dL_law_702 rfl ?_
      refine o_bipush (pc := 704) C dL_law_704 rfl ?_
      refine o_irem (pc := 706) C dL_law_706 (by omega) (by omega) (by omega) (by omega) ?_
      refine o_iload (pc := 707) C dL_law_707 rfl ?_
      refine o_callSN (pc := 709) (n := 4) (As := [.ref (g.2.1 0 0), .ref (g.2.1 24 0), oi (v % 6), oi wd]) (rest := []) hN C (c_L_areAlike hfl h3 (by omega) (by omega)) kw_16_17 kw_16_18 kw_4_14 kw_16_19 rfl (by decide +kernel) (by decide) (by omega) (by omega) rfl (Nat.le_of_ble_eq_true rfl) dL_law_709 (fun z σ4 hz => ?_)
      obtain ⟨rfl, h4⟩ := hz
      refine o_if_eq (pc := 712) C (tgt := 719) dL_law_712 (by decide) (by decide) (fun q => absurd q (by decide)) (fun _ => ?_)
      refine o_iconst (pc := 715) C dL_law_715 ?_
      refine o_goto (pc := 716) C (tgt := 720) dL_law_716 (by decide) ?_
      refine sti_3 (pc := 720) C dL_law_720 ?_
      refine inc_4 (pc := 721) C dL_law_721 ?_
      refine o_goto (pc := 724) C (tgt := 48) dL_law_724 (by decide) ?_
      exact ih (kn + 1) _ _ _ _ _ _ (by omega) h4 (by omega)
    refine o_iload (pc := 87) C dL_law_87 rfl ?_
    refine o_bipush (pc := 89) C dL_law_89 rfl ?_
    refine o_icmp_ge (pc := 91) C (tgt := 103) dL_law_91 (by decide) (by omega) (by omega) (fun _ => ?_) (fun _ => ?_)
    · refine o_iload (pc := 103) C dL_law_103 rfl ?_
      refine o_bipush (pc := 105) C dL_law_105 rfl ?_
      refine o_irem (pc := 107) C dL_law_107 (by omega) (by omega) (by omega) (by omega) ?_
      exact M _ (by omega) (by omega)
    · refine o_iload (pc := 94) C dL_law_94 rfl ?_
      refine o_iconst (pc := 96) C dL_law_96 ?_
      refine o_irem (pc := 97) C dL_law_97 (by omega) (by omega) (by omega) (by omega) ?_
      refine o_iconst (pc := 98) C dL_law_98 ?_
      refine o_imul (pc := 99) C dL_law_99 ?_
      refine o_goto (pc := 100) C (tgt := 108) dL_law_100 (by decide) ?_
      exact M _ (by omega) (by omega)

set_option maxRecDepth 100000 in
set_option maxHeartbeats 2000000 in
theorem law_body {l : Launch} {g : oG} {mc : Nat} {x : oCtx} {b L : Nat} {xs : Nat → Int32} {k0 : Nat} {σ : oMem} (hfl : l.stackTraces = false) (C : oK l g RL cL_law 30 mc x) (S : oScr b L xs x) (hN : oNCx x) (hL : L ≤ 260) (hk0 : k0 + 6 + 300 * 112 ≤ mc) (h : J σ) (hE : ∀ (σ : oMem) (vs : List (Option Value)) (k : Nat), k ≤ mc → oW l g x σ 728 vs [oi 1] k) : oW l g x σ 16 [some (.ref b), some (.ref (g.2.1 0 0)), some (.ref (g.2.1 24 0)), none, none, none, none, none, none] [] k0 := by
  refine o_aload_n (pc := 16) C dL_law_16 rfl ?_
  refine o_iconst (pc := 17) C dL_law_17 ?_
  refine o_iconst (pc := 18) C dL_law_18 ?_
  refine o_bipush (pc := 19) C dL_law_19 rfl ?_
  refine o_bipush (pc := 21) C dL_law_21 rfl ?_
  refine o_callSXh (pc := 23) (n := 5) (As := [.ref (g.2.1 0 0), oi 2, oi (5), oi (10), oi (7)]) (rest := []) hN C (c_L_sets_2 hfl h.2.1.1 (by omega) (by omega) (by omega)) kw_4_12 kw_4_13 kw_4_14 kw_4_15 (by decide +kernel) (by decide) (by omega) (by omega) rfl (Nat.le_of_ble_eq_true rfl) dL_law_23 (fun z1 s1 A1 => ?_)
  refine o_aload_n (pc := 26) C dL_law_26 rfl ?_
  refine o_iconst (pc := 27) C dL_law_27 ?_
  refine o_iconst (pc := 28) C dL_law_28 ?_
  refine o_bipush (pc := 29) C dL_law_29 rfl ?_
  refine o_bipush (pc := 31) C dL_law_31 rfl ?_
  refine oW_sw ?_
  refine o_callSXh (g := swg g) (pc := 33) (n := 5) (As := [.ref ((swg g).2.1 0 0), oi 2, oi (5), oi (10), oi (7)]) (rest := [oi z1]) hN C.sw (c_L_sets_2 hfl (JX_setRules h A1) (by omega) (by omega) (by omega)) kw_4_12 kw_4_13 kw_4_14 kw_4_15 (by decide +kernel) (by decide) (by omega) (by omega) rfl (Nat.le_of_ble_eq_true rfl) dL_law_33 (fun y2 t2 B2 => oW_ws ?_)
  obtain ⟨e2, h2⟩ := JP_setRules h A1 B2
  subst e2
  refine o_ne_same (pc := 36) C (tgt := 43) dL_law_36 (by decide) ?_
  refine o_iconst (pc := 39) C dL_law_39 ?_
  refine o_goto (pc := 40) C (tgt := 44) dL_law_40 (by decide) ?_
  refine sti_3 (pc := 44) C dL_law_44 ?_
  refine o_iconst (pc := 45) C dL_law_45 ?_
  refine sti_4 (pc := 46) C dL_law_46 ?_
  exact law_loop (k0 := k0 + 6) hfl C S hN hL (by omega) hE 110 0 _ _ _ _ _ _ rfl h2 (by omega)
