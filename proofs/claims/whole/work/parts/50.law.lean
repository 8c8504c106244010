theorem fits01 {σ σ1 σ2 : oMem} {a b k y : Int} (hL : L5_fits σ a b k σ1) (hm : M6_fits σ1 a b y σ2) (hk : k = 0) : σ2 47 0 0 = 0 ∨ σ2 47 0 0 = 1 := by
  rcases hL with ⟨-, z, σ0, ⟨⟨hz, -⟩, -⟩, h9⟩ | ⟨q, -⟩
  · rw [hm.2, o_up_k (by decide), h9, o_up_s, hz]
    split
    · exact Or.inr rfl
    · exact Or.inl rfl
  · omega
set_option maxRecDepth 100000 in
set_option maxHeartbeats 1000000 in
theorem law_0 {l : Launch} {g : oG} {mc : Nat} {x : oCtx} {σ : oMem} {k b L i : Nat} {xs : Nat → Int32} {v5 v6 : Option Value} (hfl : l.stackTraces = false) (C : oK l g RL cL_law 30 mc x) (S : oScr b L xs x) (hN : oNCx x) (hL : L ≤ 2560) (hi : i + 5 ≤ L) (h : Rel σ σ) (hk : k + 8 ≤ mc) (kk : ∀ (σ2 : oMem) (v5 v6 : Option Value) (k2 : Nat), Rel σ2 σ2 → k2 ≤ k + 8 → oW l g x σ2 1563 [some (.ref b), some (.ref (g.2.1 0 0)), some (.ref (g.2.1 24 0)), some (.ref (g.2.1 47 0)), some (oi (i : Int)), v5, v6] [] k2) : oW l g x σ 164 [some (.ref b), some (.ref (g.2.1 0 0)), some (.ref (g.2.1 24 0)), some (.ref (g.2.1 47 0)), some (oi (i : Int)), v5, v6] [] k := by
  refine o_aload_n (pc := 164) C dL_law_164 rfl ?_
  refine o_aload_n (pc := 165) C dL_law_165 rfl ?_
  refine o_iload (pc := 166) C dL_law_166 rfl ?_
  refine o_iconst (pc := 168) C dL_law_168 ?_
  refine o_iadd (pc := 169) C dL_law_169 ?_
  refine o_sld (pc := 170) (j := i + 1) S C (by omega) (by omega) hL dL_law_170 ?_
  refine o_aload_n (pc := 171) C dL_law_171 rfl ?_
  refine o_iload (pc := 172) C dL_law_172 rfl ?_
  refine o_iconst (pc := 174) C dL_law_174 ?_
  refine o_iadd (pc := 175) C dL_law_175 ?_
  refine o_sld (pc := 176) (j := i + 2) S C (by omega) (by omega) hL dL_law_176 ?_
  refine o_aload_n (pc := 177) C dL_law_177 rfl ?_
  refine o_iload (pc := 178) C dL_law_178 rfl ?_
  refine o_iconst (pc := 180) C dL_law_180 ?_
  refine o_iadd (pc := 181) C dL_law_181 ?_
  refine o_sld (pc := 182) (j := i + 3) S C (by omega) (by omega) hL dL_law_182 ?_
  refine o_aload_n (pc := 183) C dL_law_183 rfl ?_
  refine o_iload (pc := 184) C dL_law_184 rfl ?_
  refine o_iconst (pc := 186) C dL_law_186 ?_
  refine o_iadd (pc := 187) C dL_law_187 ?_
  refine o_sld (pc := 188) (j := i + 4) S C (by omega) (by omega) hL dL_law_188 ?_
  refine o_aload_n (pc := 189) C dL_law_189 rfl ?_
  refine o_callSXh (pc := 190) (n := 6) (As := [.ref (g.2.1 0 0), oi (xs (i + 1)).toInt, oi (xs (i + 2)).toInt, oi (xs (i + 3)).toInt, oi (xs (i + 4)).toInt, .ref (g.2.1 47 0)]) (rest := []) hN C (c_L_coil hfl h.1 (InR_x _) (InR_x _) (InR_x _) (InR_x _)) kw_5_22 kw_5_23 kw_6_0 kw_6_1 (by decide +kernel) (by decide) (by omega) (by omega) rfl (Nat.le_of_ble_eq_true rfl) dL_law_190 (fun k1 σ1 hq => ?_)
  have h1 := KR_coil h hq
  refine sti_5 (pc := 193) C dL_law_193 ?_
  refine o_aload_n (pc := 195) C dL_law_195 rfl ?_
  refine o_aload_n (pc := 196) C dL_law_196 rfl ?_
  refine o_iload (pc := 197) C dL_law_197 rfl ?_
  refine o_iconst (pc := 199) C dL_law_199 ?_
  refine o_iadd (pc := 200) C dL_law_200 ?_
  refine o_sld (pc := 201) (j := i + 1) S C (by omega) (by omega) hL dL_law_201 ?_
  refine o_aload_n (pc := 202) C dL_law_202 rfl ?_
  refine o_iload (pc := 203) C dL_law_203 rfl ?_
  refine o_iconst (pc := 205) C dL_law_205 ?_
  refine o_iadd (pc := 206) C dL_law_206 ?_
  refine o_sld (pc := 207) (j := i + 2) S C (by omega) (by omega) hL dL_law_207 ?_
  refine o_aload_n (pc := 208) C dL_law_208 rfl ?_
  refine o_iload (pc := 209) C dL_law_209 rfl ?_
  refine o_iconst (pc := 211) C dL_law_211 ?_
  refine o_iadd (pc := 212) C dL_law_212 ?_
  refine o_sld (pc := 213) (j := i + 3) S C (by omega) (by omega) hL dL_law_213 ?_
  refine o_aload_n (pc := 214) C dL_law_214 rfl ?_
  refine o_iload (pc := 215) C dL_law_215 rfl ?_
  refine o_iconst (pc := 217) C dL_law_217 ?_
  refine o_iadd (pc := 218) C dL_law_218 ?_
  refine o_sld (pc := 219) (j := i + 4) S C (by omega) (by omega) hL dL_law_219 ?_
  refine cl_L_90 (pc := 220) C (cm_X6_coil h1.mi (InR_x _) (InR_x _) (InR_x _) (InR_x _)) (by omega) (by omega) (Nat.le_of_ble_eq_true rfl) dL_law_220 (fun y σ2 hm => ?_)
  refine sti_6 (pc := 223) C dL_law_223 ?_
  refine o_aload_n (pc := 225) C dL_law_225 rfl ?_
  refine cl_L_91 (pc := 226) C c_X6_thrown (by omega) (by omega) (Nat.le_of_ble_eq_true rfl) dL_law_226 (fun z3 σ3 hq3 => ?_)
  obtain ⟨rfl, hq3⟩ := hq3
  rw [hq3]; clear hq3
  obtain ⟨o1, o2, o3, o4, o5⟩ := R5_coil h h1 hq hm
  rw [o1]
  refine o_iload (pc := 229) C dL_law_229 rfl ?_
  refine o_icmp_same (pc := 231) C (tgt := 236) dL_law_231 (by decide) ?_
  refine o_iload (pc := 236) C dL_law_236 rfl ?_
  refine o_if_ne (pc := 238) C (tgt := 253) dL_law_238 (by decide) (by omega) (fun hk1 => ?_) (fun hk1 => ?_)
  · refine o_goto (pc := 253) C (tgt := 1563) dL_law_253 (by decide) ?_
    exact kk _ _ _ _ o3 (by omega)
  · have o6 := o2 hk1
    refine o_aload_n (pc := 241) C dL_law_241 rfl ?_
    refine o_iconst (pc := 242) C dL_law_242 ?_
    refine o_lald (pc := 243) C dL_law_243 ?_
    rw [o6]
    refine o_iload (pc := 244) C dL_law_244 rfl ?_
    refine o_i2l (pc := 246) C dL_law_246 ?_
    refine o_lcmp_same (pc := 247) C dL_law_247 ?_
    refine o_if_eq (pc := 248) C (tgt := 253) dL_law_248 (by decide) (by decide) (fun _ => ?_) (fun q => absurd rfl q)
    refine o_goto (pc := 253) C (tgt := 1563) dL_law_253 (by decide) ?_
    exact kk _ _ _ _ o3 (by omega)
set_option maxRecDepth 100000 in
set_option maxHeartbeats 1000000 in
theorem law_1 {l : Launch} {g : oG} {mc : Nat} {x : oCtx} {σ : oMem} {k b L i : Nat} {xs : Nat → Int32} {v5 v6 : Option Value} (hfl : l.stackTraces = false) (C : oK l g RL cL_law 30 mc x) (S : oScr b L xs x) (hN : oNCx x) (hL : L ≤ 2560) (hi : i + 5 ≤ L) (h : Rel σ σ) (hk : k + 8 ≤ mc) (kk : ∀ (σ2 : oMem) (v5 v6 : Option Value) (k2 : Nat), Rel σ2 σ2 → k2 ≤ k + 8 → oW l g x σ2 1563 [some (.ref b), some (.ref (g.2.1 0 0)), some (.ref (g.2.1 24 0)), some (.ref (g.2.1 47 0)), some (oi (i : Int)), v5, v6] [] k2) : oW l g x σ 256 [some (.ref b), some (.ref (g.2.1 0 0)), some (.ref (g.2.1 24 0)), some (.ref (g.2.1 47 0)), some (oi (i : Int)), v5, v6] [] k := by
  refine o_aload_n (pc := 256) C dL_law_256 rfl ?_
  refine o_aload_n (pc := 257) C dL_law_257 rfl ?_
  refine o_iload (pc := 258) C dL_law_258 rfl ?_
  refine o_iconst (pc := 260) C dL_law_260 ?_
  refine o_iadd (pc := 261) C dL_law_261 ?_
  refine o_sld (pc := 262) (j := i + 1) S C (by omega) (by omega) hL dL_law_262 ?_
  refine o_aload_n (pc := 263) C dL_law_263 rfl ?_
  refine o_iload (pc := 264) C dL_law_264 rfl ?_
  refine o_iconst (pc := 266) C dL_law_266 ?_
  refine o_iadd (pc := 267) C dL_law_267 ?_
  refine o_sld (pc := 268) (j := i + 2) S C (by omega) (by omega) hL dL_law_268 ?_
  refine o_aload_n (pc := 269) C dL_law_269 rfl ?_
  refine o_iload (pc := 270) C dL_law_270 rfl ?_
  refine o_iconst (pc := 272) C dL_law_272 ?_
  refine o_iadd (pc := 273) C dL_law_273 ?_
  refine o_sld (pc := 274) (j := i + 3) S C (by omega) (by omega) hL dL_law_274 ?_
  refine o_aload_n (pc := 275) C dL_law_275 rfl ?_
  refine o_callSXh (pc := 276) (n := 5) (As := [.ref (g.2.1 0 0), oi (xs (i + 1)).toInt, oi (xs (i + 2)).toInt, oi (xs (i + 3)).toInt, .ref (g.2.1 47 0)]) (rest := []) hN C (c_L_defect hfl h.1 (InR_x _) (InR_x _) (InR_x _)) kw_7_11 kw_7_12 kw_6_0 kw_7_13 (by decide +kernel) (by decide) (by omega) (by omega) rfl (Nat.le_of_ble_eq_true rfl) dL_law_276 (fun k1 σ1 hq => ?_)
  have h1 := KR_defect h hq
  refine sti_5 (pc := 279) C dL_law_279 ?_
  refine o_aload_n (pc := 281) C dL_law_281 rfl ?_
  refine o_aload_n (pc := 282) C dL_law_282 rfl ?_
  refine o_iload (pc := 283) C dL_law_283 rfl ?_
  refine o_iconst (pc := 285) C dL_law_285 ?_
  refine o_iadd (pc := 286) C dL_law_286 ?_
  refine o_sld (pc := 287) (j := i + 1) S C (by omega) (by omega) hL dL_law_287 ?_
  refine o_aload_n (pc := 288) C dL_law_288 rfl ?_
  refine o_iload (pc := 289) C dL_law_289 rfl ?_
  refine o_iconst (pc := 291) C dL_law_291 ?_
  refine o_iadd (pc := 292) C dL_law_292 ?_
  refine o_sld (pc := 293) (j := i + 2) S C (by omega) (by omega) hL dL_law_293 ?_
  refine o_aload_n (pc := 294) C dL_law_294 rfl ?_
  refine o_iload (pc := 295) C dL_law_295 rfl ?_
  refine o_iconst (pc := 297) C dL_law_297 ?_
  refine o_iadd (pc := 298) C dL_law_298 ?_
  refine o_sld (pc := 299) (j := i + 3) S C (by omega) (by omega) hL dL_law_299 ?_
  refine cl_L_97 (pc := 300) C (cm_X6_defect h1.mi (InR_x _) (InR_x _) (InR_x _)) (by omega) (by omega) (Nat.le_of_ble_eq_true rfl) dL_law_300 (fun y σ2 hm => ?_)
  refine sti_6 (pc := 303) C dL_law_303 ?_
  refine o_aload_n (pc := 305) C dL_law_305 rfl ?_
  refine cl_L_91 (pc := 306) C c_X6_thrown (by omega) (by omega) (Nat.le_of_ble_eq_true rfl) dL_law_306 (fun z3 σ3 hq3 => ?_)
  obtain ⟨rfl, hq3⟩ := hq3
  rw [hq3]; clear hq3
  obtain ⟨o1, o2, o3, o4, o5⟩ := R5_defect h h1 hq hm
  rw [o1]
  refine o_iload (pc := 309) C dL_law_309 rfl ?_
  refine o_icmp_same (pc := 311) C (tgt := 316) dL_law_311 (by decide) ?_
  refine o_iload (pc := 316) C dL_law_316 rfl ?_
  refine o_if_ne (pc := 318) C (tgt := 333) dL_law_318 (by decide) (by omega) (fun hk1 => ?_) (fun hk1 => ?_)
  · refine o_goto (pc := 333) C (tgt := 1563) dL_law_333 (by decide) ?_
    exact kk _ _ _ _ o3 (by omega)
  · have o6 := o2 hk1
    refine o_aload_n (pc := 321) C dL_law_321 rfl ?_
    refine o_iconst (pc := 322) C dL_law_322 ?_
    refine o_lald (pc := 323) C dL_law_323 ?_
    rw [o6]
    refine o_iload (pc := 324) C dL_law_324 rfl ?_
    refine o_i2l (pc := 326) C dL_law_326 ?_
    refine o_lcmp_same (pc := 327) C dL_law_327 ?_
    refine o_if_eq (pc := 328) C (tgt := 333) dL_law_328 (by decide) (by decide) (fun _ => ?_) (fun q => absurd rfl q)
    refine o_goto (pc := 333) C (tgt := 1563) dL_law_333 (by decide) ?_
    exact kk _ _ _ _ o3 (by omega)
set_option maxRecDepth 100000 in
set_option maxHeartbeats 1000000 in
theorem law_2 {l : Launch} {g : oG} {mc : Nat} {x : oCtx} {σ : oMem} {k b L i : Nat} {xs : Nat → Int32} {v5 v6 : Option Value} (hfl : l.stackTraces = false) (C : oK l g RL cL_law 30 mc x) (S : oScr b L xs x) (hN : oNCx x) (hL : L ≤ 2560) (hi : i + 5 ≤ L) (h : Rel σ σ) (hk : k + 8 ≤ mc) (kk : ∀ (σ2 : oMem) (v5 v6 : Option Value) (k2 : Nat), Rel σ2 σ2 → k2 ≤ k + 8 → oW l g x σ2 1563 [some (.ref b), some (.ref (g.2.1 0 0)), some (.ref (g.2.1 24 0)), some (.ref (g.2.1 47 0)), some (oi (i : Int)), v5, v6] [] k2) : oW l g x σ 336 [some (.ref b), some (.ref (g.2.1 0 0)), some (.ref (g.2.1 24 0)), some (.ref (g.2.1 47 0)), some (oi (i : Int)), v5, v6] [] k := by
  refine o_aload_n (pc := 336) C dL_law_336 rfl ?_
  refine o_aload_n (pc := 337) C dL_law_337 rfl ?_
  refine o_iload (pc := 338) C dL_law_338 rfl ?_
  refine o_iconst (pc := 340) C dL_law_340 ?_
  refine o_iadd (pc := 341) C dL_law_341 ?_
  refine o_sld (pc := 342) (j := i + 1) S C (by omega) (by omega) hL dL_law_342 ?_
  refine o_aload_n (pc := 343) C dL_law_343 rfl ?_
  refine o_iload (pc := 344) C dL_law_344 rfl ?_
  refine o_iconst (pc := 346) C dL_law_346 ?_
  refine o_iadd (pc := 347) C dL_law_347 ?_
  refine o_sld (pc := 348) (j := i + 2) S C (by omega) (by omega) hL dL_law_348 ?_
  refine o_aload_n (pc := 349) C dL_law_349 rfl ?_
  refine o_iload (pc := 350) C dL_law_350 rfl ?_
  refine o_iconst (pc := 352) C dL_law_352 ?_
  refine o_iadd (pc := 353) C dL_law_353 ?_
  refine o_sld (pc := 354) (j := i + 3) S C (by omega) (by omega) hL dL_law_354 ?_
  refine o_aload_n (pc := 355) C dL_law_355 rfl ?_
  refine o_callSXh (pc := 356) (n := 5) (As := [.ref (g.2.1 0 0), oi (xs (i + 1)).toInt, oi (xs (i + 2)).toInt, oi (xs (i + 3)).toInt, .ref (g.2.1 47 0)]) (rest := []) hN C (c_L_setRules hfl h.1 (InR_x _) (InR_x _) (InR_x _)) kw_9_14 kw_9_15 kw_6_0 kw_9_16 (by decide +kernel) (by decide) (by omega) (by omega) rfl (Nat.le_of_ble_eq_true rfl) dL_law_356 (fun k1 σ1 hq => ?_)
  have h1 := KR_setRules h hq
  refine sti_5 (pc := 359) C dL_law_359 ?_
  refine o_aload_n (pc := 361) C dL_law_361 rfl ?_
  refine o_aload_n (pc := 362) C dL_law_362 rfl ?_
  refine o_iload (pc := 363) C dL_law_363 rfl ?_
  refine o_iconst (pc := 365) C dL_law_365 ?_
  refine o_iadd (pc := 366) C dL_law_366 ?_
  refine o_sld (pc := 367) (j := i + 1) S C (by omega) (by omega) hL dL_law_367 ?_
  refine o_aload_n (pc := 368) C dL_law_368 rfl ?_
  refine o_iload (pc := 369) C dL_law_369 rfl ?_
  refine o_iconst (pc := 371) C dL_law_371 ?_
  refine o_iadd (pc := 372) C dL_law_372 ?_
  refine o_sld (pc := 373) (j := i + 2) S C (by omega) (by omega) hL dL_law_373 ?_
  refine o_aload_n (pc := 374) C dL_law_374 rfl ?_
  refine o_iload (pc := 375) C dL_law_375 rfl ?_
  refine o_iconst (pc := 377) C dL_law_377 ?_
  refine o_iadd (pc := 378) C dL_law_378 ?_
  refine o_sld (pc := 379) (j := i + 3) S C (by omega) (by omega) hL dL_law_379 ?_
  refine cl_L_100 (pc := 380) C (cm_X6_setRules h1.mi (InR_x _) (InR_x _) (InR_x _)) (by omega) (by omega) (Nat.le_of_ble_eq_true rfl) dL_law_380 (fun y σ2 hm => ?_)
  refine sti_6 (pc := 383) C dL_law_383 ?_
  refine o_aload_n (pc := 385) C dL_law_385 rfl ?_
  refine cl_L_91 (pc := 386) C c_X6_thrown (by omega) (by omega) (Nat.le_of_ble_eq_true rfl) dL_law_386 (fun z3 σ3 hq3 => ?_)
  obtain ⟨rfl, hq3⟩ := hq3
  rw [hq3]; clear hq3
  obtain ⟨o1, o2, o3, o4, o5⟩ := R5_setRules h h1 hq hm
  rw [o1]
  refine o_iload (pc := 389) C dL_law_389 rfl ?_
  refine o_icmp_same (pc := 391) C (tgt := 396) dL_law_391 (by decide) ?_
  refine o_iload (pc := 396) C dL_law_396 rfl ?_
  refine o_if_ne (pc := 398) C (tgt := 413) dL_law_398 (by decide) (by omega) (fun hk1 => ?_) (fun hk1 => ?_)
  · refine o_goto (pc := 413) C (tgt := 1563) dL_law_413 (by decide) ?_
    exact kk _ _ _ _ o3 (by omega)
  · have o6 := o2 hk1
    refine o_aload_n (pc := 401) C dL_law_401 rfl ?_
    refine o_iconst (pc := 402) C dL_law_402 ?_
    refine o_lald (pc := 403) C dL_law_403 ?_
    rw [o6]
    refine o_iload (pc := 404) C dL_law_404 rfl ?_
    refine o_i2l (pc := 406) C dL_law_406 ?_
    refine o_lcmp_same (pc := 407) C dL_law_407 ?_
    refine o_if_eq (pc := 408) C (tgt := 413) dL_law_408 (by decide) (by decide) (fun _ => ?_) (fun q => absurd rfl q)
    refine o_goto (pc := 413) C (tgt := 1563) dL_law_413 (by decide) ?_
    exact kk _ _ _ _ o3 (by omega)
set_option maxRecDepth 100000 in
set_option maxHeartbeats 1000000 in
theorem law_3 {l : Launch} {g : oG} {mc : Nat} {x : oCtx} {σ : oMem} {k b L i : Nat} {xs : Nat → Int32} {v5 v6 : Option Value} (hfl : l.stackTraces = false) (C : oK l g RL cL_law 30 mc x) (S : oScr b L xs x) (hN : oNCx x) (hL : L ≤ 2560) (hi : i + 5 ≤ L) (h : Rel σ σ) (hk : k + 8 ≤ mc) (kk : ∀ (σ2 : oMem) (v5 v6 : Option Value) (k2 : Nat), Rel σ2 σ2 → k2 ≤ k + 8 → oW l g x σ2 1563 [some (.ref b), some (.ref (g.2.1 0 0)), some (.ref (g.2.1 24 0)), some (.ref (g.2.1 47 0)), some (oi (i : Int)), v5, v6] [] k2) : oW l g x σ 416 [some (.ref b), some (.ref (g.2.1 0 0)), some (.ref (g.2.1 24 0)), some (.ref (g.2.1 47 0)), some (oi (i : Int)), v5, v6] [] k := by
  refine o_aload_n (pc := 416) C dL_law_416 rfl ?_
  refine o_aload_n (pc := 417) C dL_law_417 rfl ?_
  refine o_iload (pc := 418) C dL_law_418 rfl ?_
  refine o_iconst (pc := 420) C dL_law_420 ?_
  refine o_iadd (pc := 421) C dL_law_421 ?_
  refine o_sld (pc := 422) (j := i + 1) S C (by omega) (by omega) hL dL_law_422 ?_
  refine o_aload_n (pc := 423) C dL_law_423 rfl ?_
  refine o_iload (pc := 424) C dL_law_424 rfl ?_
  refine o_iconst (pc := 426) C dL_law_426 ?_
  refine o_iadd (pc := 427) C dL_law_427 ?_
  refine o_sld (pc := 428) (j := i + 2) S C (by omega) (by omega) hL dL_law_428 ?_
  refine o_aload_n (pc := 429) C dL_law_429 rfl ?_
  refine o_callSXh (pc := 430) (n := 4) (As := [.ref (g.2.1 0 0), oi (xs (i + 1)).toInt, oi (xs (i + 2)).toInt, .ref (g.2.1 47 0)]) (rest := []) hN C (c_L_order hfl h.1 (InR_x _) (InR_x _)) kw_10_5 kw_10_6 kw_6_0 kw_10_7 (by decide +kernel) (by decide) (by omega) (by omega) rfl (Nat.le_of_ble_eq_true rfl) dL_law_430 (fun k1 σ1 hq => ?_)
  have h1 := KR_order h hq
  refine sti_5 (pc := 433) C dL_law_433 ?_
  refine o_aload_n (pc := 435) C dL_law_435 rfl ?_
  refine o_aload_n (pc := 436) C dL_law_436 rfl ?_
  refine o_iload (pc := 437) C dL_law_437 rfl ?_
  refine o_iconst (pc := 439) C dL_law_439 ?_
  refine o_iadd (pc := 440) C dL_law_440 ?_
  refine o_sld (pc := 441) (j := i + 1) S C (by omega) (by omega) hL dL_law_441 ?_
  refine o_aload_n (pc := 442) C dL_law_442 rfl ?_
  refine o_iload (pc := 443) C dL_law_443 rfl ?_
  refine o_iconst (pc := 445) C dL_law_445 ?_
  refine o_iadd (pc := 446) C dL_law_446 ?_
  refine o_sld (pc := 447) (j := i + 2) S C (by omega) (by omega) hL dL_law_447 ?_
  refine cl_L_104 (pc := 448) C (cm_X6_order h1.mi (InR_x _) (InR_x _)) (by omega) (by omega) (Nat.le_of_ble_eq_true rfl) dL_law_448 (fun y σ2 hm => ?_)
  refine sti_6 (pc := 451) C dL_law_451 ?_
  refine o_aload_n (pc := 453) C dL_law_453 rfl ?_
  refine cl_L_91 (pc := 454) C c_X6_thrown (by omega) (by omega) (Nat.le_of_ble_eq_true rfl) dL_law_454 (fun z3 σ3 hq3 => ?_)
  obtain ⟨rfl, hq3⟩ := hq3
  rw [hq3]; clear hq3
  obtain ⟨o1, o2, o3, o4, o5⟩ := R5_order h h1 hq hm
  rw [o1]
  refine o_iload (pc := 457) C dL_law_457 rfl ?_
  refine o_icmp_same (pc := 459) C (tgt := 464) dL_law_459 (by decide) ?_
  refine o_iload (pc := 464) C dL_law_464 rfl ?_
  refine o_if_ne (pc := 466) C (tgt := 481) dL_law_466 (by decide) (by omega) (fun hk1 => ?_) (fun hk1 => ?_)
  · refine o_goto (pc := 481) C (tgt := 1563) dL_law_481 (by decide) ?_
    exact kk _ _ _ _ o3 (by omega)
  · have o6 := o2 hk1
    refine o_aload_n (pc := 469) C dL_law_469 rfl ?_
    refine o_iconst (pc := 470) C dL_law_470 ?_
    refine o_lald (pc := 471) C dL_law_471 ?_
    rw [o6]
    refine o_iload (pc := 472) C dL_law_472 rfl ?_
    refine o_i2l (pc := 474) C dL_law_474 ?_
    refine o_lcmp_same (pc := 475) C dL_law_475 ?_
    refine o_if_eq (pc := 476) C (tgt := 481) dL_law_476 (by decide) (by decide) (fun _ => ?_) (fun q => absurd rfl q)
    refine o_goto (pc := 481) C (tgt := 1563) dL_law_481 (by decide) ?_
    exact kk _ _ _ _ o3 (by omega)
set_option maxRecDepth 100000 in
set_option maxHeartbeats 1000000 in
theorem law_4 {l : Launch} {g : oG} {mc : Nat} {x : oCtx} {σ : oMem} {k b L i : Nat} {xs : Nat → Int32} {v5 v6 : Option Value} (hfl : l.stackTraces = false) (C : oK l g RL cL_law 30 mc x) (S : oScr b L xs x) (hN : oNCx x) (hL : L ≤ 2560) (hi : i + 5 ≤ L) (h : Rel σ σ) (hk : k + 8 ≤ mc) (kk : ∀ (σ2 : oMem) (v5 v6 : Option Value) (k2 : Nat), Rel σ2 σ2 → k2 ≤ k + 8 → oW l g x σ2 1563 [some (.ref b), some (.ref (g.2.1 0 0)), some (.ref (g.2.1 24 0)), some (.ref (g.2.1 47 0)), some (oi (i : Int)), v5, v6] [] k2) : oW l g x σ 484 [some (.ref b), some (.ref (g.2.1 0 0)), some (.ref (g.2.1 24 0)), some (.ref (g.2.1 47 0)), some (oi (i : Int)), v5, v6] [] k := by
  refine o_aload_n (pc := 484) C dL_law_484 rfl ?_
  refine o_aload_n (pc := 485) C dL_law_485 rfl ?_
  refine o_iload (pc := 486) C dL_law_486 rfl ?_
  refine o_iconst (pc := 488) C dL_law_488 ?_
  refine o_iadd (pc := 489) C dL_law_489 ?_
  refine o_sld (pc := 490) (j := i + 1) S C (by omega) (by omega) hL dL_law_490 ?_
  refine o_aload_n (pc := 491) C dL_law_491 rfl ?_
  refine o_callSXh (pc := 492) (n := 3) (As := [.ref (g.2.1 0 0), oi (xs (i + 1)).toInt, .ref (g.2.1 47 0)]) (rest := []) hN C (c_L_addSlit hfl h.1 (InR_x _)) kw_10_22 kw_10_23 kw_6_0 kw_11_0 (by decide +kernel) (by decide) (by omega) (by omega) rfl (Nat.le_of_ble_eq_true rfl) dL_law_492 (fun k1 σ1 hq => ?_)
  have h1 := KR_addSlit h hq
  refine sti_5 (pc := 495) C dL_law_495 ?_
  refine o_aload_n (pc := 497) C dL_law_497 rfl ?_
  refine o_aload_n (pc := 498) C dL_law_498 rfl ?_
  refine o_iload (pc := 499) C dL_law_499 rfl ?_
  refine o_iconst (pc := 501) C dL_law_501 ?_
  refine o_iadd (pc := 502) C dL_law_502 ?_
  refine o_sld (pc := 503) (j := i + 1) S C (by omega) (by omega) hL dL_law_503 ?_
  refine cl_L_108 (pc := 504) C (cm_X6_addSlit h1.mi (InR_x _)) (by omega) (by omega) (Nat.le_of_ble_eq_true rfl) dL_law_504 (fun y σ2 hm => ?_)
  refine sti_6 (pc := 507) C dL_law_507 ?_
  refine o_aload_n (pc := 509) C dL_law_509 rfl ?_
  refine cl_L_91 (pc := 510) C c_X6_thrown (by omega) (by omega) (Nat.le_of_ble_eq_true rfl) dL_law_510 (fun z3 σ3 hq3 => ?_)
  obtain ⟨rfl, hq3⟩ := hq3
  rw [hq3]; clear hq3
  obtain ⟨o1, o2, o3, o4, o5⟩ := R5_addSlit h h1 hq hm
  rw [o1]
  refine o_iload (pc := 513) C dL_law_513 rfl ?_
  refine o_icmp_same (pc := 515) C (tgt := 520) dL_law_515 (by decide) ?_
  refine o_iload (pc := 520) C dL_law_520 rfl ?_
  refine o_if_ne (pc := 522) C (tgt := 537) dL_law_522 (by decide) (by omega) (fun hk1 => ?_) (fun hk1 => ?_)
  · refine o_goto (pc := 537) C (tgt := 1563) dL_law_537 (by decide) ?_
    exact kk _ _ _ _ o3 (by omega)
  · have o6 := o2 hk1
    refine o_aload_n (pc := 525) C dL_law_525 rfl ?_
    refine o_iconst (pc := 526) C dL_law_526 ?_
    refine o_lald (pc := 527) C dL_law_527 ?_
    rw [o6]
    refine o_iload (pc := 528) C dL_law_528 rfl ?_
    refine o_i2l (pc := 530) C dL_law_530 ?_
    refine o_lcmp_same (pc := 531) C dL_law_531 ?_
    refine o_if_eq (pc := 532) C (tgt := 537) dL_law_532 (by decide) (by decide) (fun _ => ?_) (fun q => absurd rfl q)
    refine o_goto (pc := 537) C (tgt := 1563) dL_law_537 (by decide) ?_
    exact kk _ _ _ _ o3 (by omega)
set_option maxRecDepth 100000 in
set_option maxHeartbeats 1000000 in
theorem law_5 {l : Launch} {g : oG} {mc : Nat} {x : oCtx} {σ : oMem} {k b L i : Nat} {xs : Nat → Int32} {v5 v6 : Option Value} (hfl : l.stackTraces = false) (C : oK l g RL cL_law 30 mc x) (S : oScr b L xs x) (hN : oNCx x) (hL : L ≤ 2560) (hi : i + 5 ≤ L) (h : Rel σ σ) (hk : k + 8 ≤ mc) (kk : ∀ (σ2 : oMem) (v5 v6 : Option Value) (k2 : Nat), Rel σ2 σ2 → k2 ≤ k + 8 → oW l g x σ2 1563 [some (.ref b), some (.ref (g.2.1 0 0)), some (.ref (g.2.1 24 0)), some (.ref (g.2.1 47 0)), some (oi (i : Int)), v5, v6] [] k2) : oW l g x σ 540 [some (.ref b), some (.ref (g.2.1 0 0)), some (.ref (g.2.1 24 0)), some (.ref (g.2.1 47 0)), some (oi (i : Int)), v5, v6] [] k := by
  refine o_aload_n (pc := 540) C dL_law_540 rfl ?_
  refine cl_L_109 (pc := 541) C (c_X5_clearDraft h.1) (by omega) (by omega) (Nat.le_of_ble_eq_true rfl) dL_law_541 (fun k1 σ1 hq => ?_)
  have hq : P5_clearDraft σ k1 σ1 := hq
  have h1 := KR_clearDraft h hq
  refine o_aload_n (pc := 544) C dL_law_544 rfl ?_
  refine cl_L_112 (pc := 545) C (cm_X6_clearDraft h1.mi) (by omega) (by omega) (Nat.le_of_ble_eq_true rfl) dL_law_545 (fun y σ2 hm => ?_)
  obtain ⟨o1, o3⟩ := R5_clearDraft h h1 hq hm
  rw [o1]
  refine o_icmp_same (pc := 548) C (tgt := 1563) dL_law_548 (by decide) ?_
  exact kk _ _ _ _ o3 (by omega)
set_option maxRecDepth 100000 in
set_option maxHeartbeats 1000000 in
theorem law_6 {l : Launch} {g : oG} {mc : Nat} {x : oCtx} {σ : oMem} {k b L i : Nat} {xs : Nat → Int32} {v5 v6 : Option Value} (hfl : l.stackTraces = false) (C : oK l g RL cL_law 30 mc x) (S : oScr b L xs x) (hN : oNCx x) (hL : L ≤ 2560) (hi : i + 5 ≤ L) (h : Rel σ σ) (hk : k + 8 ≤ mc) (kk : ∀ (σ2 : oMem) (v5 v6 : Option Value) (k2 : Nat), Rel σ2 σ2 → k2 ≤ k + 8 → oW l g x σ2 1563 [some (.ref b), some (.ref (g.2.1 0 0)), some (.ref (g.2.1 24 0)), some (.ref (g.2.1 47 0)), some (oi (i : Int)), v5, v6] [] k2) : oW l g x σ 553 [some (.ref b), some (.ref (g.2.1 0 0)), some (.ref (g.2.1 24 0)), some (.ref (g.2.1 47 0)), some (oi (i : Int)), v5, v6] [] k := by
  refine o_aload_n (pc := 553) C dL_law_553 rfl ?_
  refine cl_L_113 (pc := 554) C (c_X5_draftSlits h.1) (by omega) (by omega) (Nat.le_of_ble_eq_true rfl) dL_law_554 (fun k1 σ1 hq => ?_)
  have hq : P5_draftSlits σ k1 σ1 := hq
  have h1 := KR_draftSlits h hq
  refine o_aload_n (pc := 557) C dL_law_557 rfl ?_
  refine cl_L_116 (pc := 558) C (cm_X6_draftSlits h1.mi) (by omega) (by omega) (Nat.le_of_ble_eq_true rfl) dL_law_558 (fun y σ2 hm => ?_)
  obtain ⟨o1, o3⟩ := R5_draftSlits h h1 hq hm
  rw [o1]
  refine o_icmp_same (pc := 561) C (tgt := 1563) dL_law_561 (by decide) ?_
  exact kk _ _ _ _ o3 (by omega)
set_option maxRecDepth 100000 in
set_option maxHeartbeats 1000000 in
theorem law_7 {l : Launch} {g : oG} {mc : Nat} {x : oCtx} {σ : oMem} {k b L i : Nat} {xs : Nat → Int32} {v5 v6 : Option Value} (hfl : l.stackTraces = false) (C : oK l g RL cL_law 30 mc x) (S : oScr b L xs x) (hN : oNCx x) (hL : L ≤ 2560) (hi : i + 5 ≤ L) (h : Rel σ σ) (hk : k + 8 ≤ mc) (kk : ∀ (σ2 : oMem) (v5 v6 : Option Value) (k2 : Nat), Rel σ2 σ2 → k2 ≤ k + 8 → oW l g x σ2 1563 [some (.ref b), some (.ref (g.2.1 0 0)), some (.ref (g.2.1 24 0)), some (.ref (g.2.1 47 0)), some (oi (i : Int)), v5, v6] [] k2) : oW l g x σ 566 [some (.ref b), some (.ref (g.2.1 0 0)), some (.ref (g.2.1 24 0)), some (.ref (g.2.1 47 0)), some (oi (i : Int)), v5, v6] [] k := by
  refine o_aload_n (pc := 566) C dL_law_566 rfl ?_
  refine o_aload_n (pc := 567) C dL_law_567 rfl ?_
  refine o_iload (pc := 568) C dL_law_568 rfl ?_
  refine o_iconst (pc := 570) C dL_law_570 ?_
  refine o_iadd (pc := 571) C dL_law_571 ?_
  refine o_sld (pc := 572) (j := i + 1) S C (by omega) (by omega) hL dL_law_572 ?_
  refine o_aload_n (pc := 573) C dL_law_573 rfl ?_
  refine o_callSXh (pc := 574) (n := 3) (As := [.ref (g.2.1 0 0), oi (xs (i + 1)).toInt, .ref (g.2.1 47 0)]) (rest := []) hN C (c_L_draftWidth hfl h.1 (InR_x _)) kw_12_19 kw_12_20 kw_6_0 kw_12_21 (by decide +kernel) (by decide) (by omega) (by omega) rfl (Nat.le_of_ble_eq_true rfl) dL_law_574 (fun k1 σ1 hq => ?_)
  have h1 := KR_draftWidth h hq
  refine sti_5 (pc := 577) C dL_law_577 ?_
  refine o_aload_n (pc := 579) C dL_law_579 rfl ?_
  refine o_aload_n (pc := 580) C dL_law_580 rfl ?_
  refine o_iload (pc := 581) C dL_law_581 rfl ?_
  refine o_iconst (pc := 583) C dL_law_583 ?_
  refine o_iadd (pc := 584) C dL_law_584 ?_
  refine o_sld (pc := 585) (j := i + 1) S C (by omega) (by omega) hL dL_law_585 ?_
  refine cl_L_119 (pc := 586) C (cm_X6_draftWidth h1.mi (InR_x _)) (by omega) (by omega) (Nat.le_of_ble_eq_true rfl) dL_law_586 (fun y σ2 hm => ?_)
  refine sti_6 (pc := 589) C dL_law_589 ?_
  refine o_aload_n (pc := 591) C dL_law_591 rfl ?_
  refine cl_L_91 (pc := 592) C c_X6_thrown (by omega) (by omega) (Nat.le_of_ble_eq_true rfl) dL_law_592 (fun z3 σ3 hq3 => ?_)
  obtain ⟨rfl, hq3⟩ := hq3
  rw [hq3]; clear hq3
  obtain ⟨o1, o2, o3, o4, o5⟩ := R5_draftWidth h h1 hq hm
  rw [o1]
  refine o_iload (pc := 595) C dL_law_595 rfl ?_
  refine o_icmp_same (pc := 597) C (tgt := 602) dL_law_597 (by decide) ?_
  refine o_iload (pc := 602) C dL_law_602 rfl ?_
  refine o_if_ne (pc := 604) C (tgt := 619) dL_law_604 (by decide) (by omega) (fun hk1 => ?_) (fun hk1 => ?_)
  · refine o_goto (pc := 619) C (tgt := 1563) dL_law_619 (by decide) ?_
    exact kk _ _ _ _ o3 (by omega)
  · have o6 := o2 hk1
    refine o_aload_n (pc := 607) C dL_law_607 rfl ?_
    refine o_iconst (pc := 608) C dL_law_608 ?_
    refine o_lald (pc := 609) C dL_law_609 ?_
    rw [o6]
    refine o_iload (pc := 610) C dL_law_610 rfl ?_
    refine o_i2l (pc := 612) C dL_law_612 ?_
    refine o_lcmp_same (pc := 613) C dL_law_613 ?_
    refine o_if_eq (pc := 614) C (tgt := 619) dL_law_614 (by decide) (by decide) (fun _ => ?_) (fun q => absurd rfl q)
    refine o_goto (pc := 619) C (tgt := 1563) dL_law_619 (by decide) ?_
    exact kk _ _ _ _ o3 (by omega)
set_option maxRecDepth 100000 in
set_option maxHeartbeats 1000000 in
theorem law_8 {l : Launch} {g : oG} {mc : Nat} {x : oCtx} {σ : oMem} {k b L i : Nat} {xs : Nat → Int32} {v5 v6 : Option Value} (hfl : l.stackTraces = false) (C : oK l g RL cL_law 30 mc x) (S : oScr b L xs x) (hN : oNCx x) (hL : L ≤ 2560) (hi : i + 5 ≤ L) (h : Rel σ σ) (hk : k + 8 ≤ mc) (kk : ∀ (σ2 : oMem) (v5 v6 : Option Value) (k2 : Nat), Rel σ2 σ2 → k2 ≤ k + 8 → oW l g x σ2 1563 [some (.ref b), some (.ref (g.2.1 0 0)), some (.ref (g.2.1 24 0)), some (.ref (g.2.1 47 0)), some (oi (i : Int)), v5, v6] [] k2) : oW l g x σ 622 [some (.ref b), some (.ref (g.2.1 0 0)), some (.ref (g.2.1 24 0)), some (.ref (g.2.1 47 0)), some (oi (i : Int)), v5, v6] [] k := by
  refine o_aload_n (pc := 622) C dL_law_622 rfl ?_
  refine o_aload_n (pc := 623) C dL_law_623 rfl ?_
  refine o_callSXh (pc := 624) (n := 2) (As := [.ref (g.2.1 0 0), .ref (g.2.1 47 0)]) (rest := []) hN C (c_L_keep hfl h.1) kw_13_9 kw_13_10 kw_6_0 kw_13_11 (by decide +kernel) (by decide) (by omega) (by omega) rfl (Nat.le_of_ble_eq_true rfl) dL_law_624 (fun k1 σ1 hq => ?_)
  have h1 := KR_keep h hq
  refine sti_5 (pc := 627) C dL_law_627 ?_
  refine o_aload_n (pc := 629) C dL_law_629 rfl ?_
  refine cl_L_123 (pc := 630) C (cm_X6_keep h1.mi) (by omega) (by omega) (Nat.le_of_ble_eq_true rfl) dL_law_630 (fun y σ2 hm => ?_)
  refine sti_6 (pc := 633) C dL_law_633 ?_
  refine o_aload_n (pc := 635) C dL_law_635 rfl ?_
  refine cl_L_91 (pc := 636) C c_X6_thrown (by omega) (by omega) (Nat.le_of_ble_eq_true rfl) dL_law_636 (fun z3 σ3 hq3 => ?_)
  obtain ⟨rfl, hq3⟩ := hq3
  rw [hq3]; clear hq3
  obtain ⟨o1, o2, o3, o4, o5⟩ := R5_keep h h1 hq hm
  rw [o1]
  refine o_iload (pc := 639) C dL_law_639 rfl ?_
  refine o_icmp_same (pc := 641) C (tgt := 646) dL_law_641 (by decide) ?_
  refine o_iload (pc := 646) C dL_law_646 rfl ?_
  refine o_if_ne (pc := 648) C (tgt := 663) dL_law_648 (by decide) (by omega) (fun hk1 => ?_) (fun hk1 => ?_)
  · refine o_goto (pc := 663) C (tgt := 1563) dL_law_663 (by decide) ?_
    exact kk _ _ _ _ o3 (by omega)
  · have o6 := o2 hk1
    refine o_aload_n (pc := 651) C dL_law_651 rfl ?_
    refine o_iconst (pc := 652) C dL_law_652 ?_
    refine o_lald (pc := 653) C dL_law_653 ?_
    rw [o6]
    refine o_iload (pc := 654) C dL_law_654 rfl ?_
    refine o_i2l (pc := 656) C dL_law_656 ?_
    refine o_lcmp_same (pc := 657) C dL_law_657 ?_
    refine o_if_eq (pc := 658) C (tgt := 663) dL_law_658 (by decide) (by decide) (fun _ => ?_) (fun q => absurd rfl q)
    refine o_goto (pc := 663) C (tgt := 1563) dL_law_663 (by decide) ?_
    exact kk _ _ _ _ o3 (by omega)
set_option maxRecDepth 100000 in
set_option maxHeartbeats 1000000 in
theorem law_9 {l : Launch} {g : oG} {mc : Nat} {x : oCtx} {σ : oMem} {k b L i : Nat} {xs : Nat → Int32} {v5 v6 : Option Value} (hfl : l.stackTraces = false) (C : oK l g RL cL_law 30 mc x) (S : oScr b L xs x) (hN : oNCx x) (hL : L ≤ 2560) (hi : i + 5 ≤ L) (h : Rel σ σ) (hk : k + 8 ≤ mc) (kk : ∀ (σ2 : oMem) (v5 v6 : Option Value) (k2 : Nat), Rel σ2 σ2 → k2 ≤ k + 8 → oW l g x σ2 1563 [some (.ref b), some (.ref (g.2.1 0 0)), some (.ref (g.2.1 24 0)), some (.ref (g.2.1 47 0)), some (oi (i : Int)), v5, v6] [] k2) : oW l g x σ 666 [some (.ref b), some (.ref (g.2.1 0 0)), some (.ref (g.2.1 24 0)), some (.ref (g.2.1 47 0)), some (oi (i : Int)), v5, v6] [] k := by
  refine o_aload_n (pc := 666) C dL_law_666 rfl ?_
  refine o_aload_n (pc := 667) C dL_law_667 rfl ?_
  refine o_iload (pc := 668) C dL_law_668 rfl ?_
  refine o_iconst (pc := 670) C dL_law_670 ?_
  refine o_iadd (pc := 671) C dL_law_671 ?_
  refine o_sld (pc := 672) (j := i + 1) S C (by omega) (by omega) hL dL_law_672 ?_
  refine o_aload_n (pc := 673) C dL_law_673 rfl ?_
  refine o_iload (pc := 674) C dL_law_674 rfl ?_
  refine o_iconst (pc := 676) C dL_law_676 ?_
  refine o_iadd (pc := 677) C dL_law_677 ?_
  refine o_sld (pc := 678) (j := i + 2) S C (by omega) (by omega) hL dL_law_678 ?_
  refine o_aload_n (pc := 679) C dL_law_679 rfl ?_
  refine o_callSXh (pc := 680) (n := 4) (As := [.ref (g.2.1 0 0), oi (xs (i + 1)).toInt, oi (xs (i + 2)).toInt, .ref (g.2.1 47 0)]) (rest := []) hN C (c_L_fits hfl h.1 (InR_x _) (InR_x _)) kw_14_2 kw_14_3 kw_6_0 kw_14_4 (by decide +kernel) (by decide) (by omega) (by omega) rfl (Nat.le_of_ble_eq_true rfl) dL_law_680 (fun k1 σ1 hq => ?_)
  have h1 := KR_fits h hq
  refine sti_5 (pc := 683) C dL_law_683 ?_
  refine o_aload_n (pc := 685) C dL_law_685 rfl ?_
  refine o_aload_n (pc := 686) C dL_law_686 rfl ?_
  refine o_iload (pc := 687) C dL_law_687 rfl ?_
  refine o_iconst (pc := 689) C dL_law_689 ?_
  refine o_iadd (pc := 690) C dL_law_690 ?_
  refine o_sld (pc := 691) (j := i + 1) S C (by omega) (by omega) hL dL_law_691 ?_
  refine o_aload_n (pc := 692) C dL_law_692 rfl ?_
  refine o_iload (pc := 693) C dL_law_693 rfl ?_
  refine o_iconst (pc := 695) C dL_law_695 ?_
  refine o_iadd (pc := 696) C dL_law_696 ?_
  refine o_sld (pc := 697) (j := i + 2) S C (by omega) (by omega) hL dL_law_697 ?_
  refine cl_L_126 (pc := 698) C (cm_X6_fits h1.mi (InR_x _) (InR_x _)) (by omega) (by omega) (Nat.le_of_ble_eq_true rfl) dL_law_698 (fun y σ2 hm => ?_)
  refine sti_6 (pc := 701) C dL_law_701 ?_
  refine o_aload_n (pc := 703) C dL_law_703 rfl ?_
  refine cl_L_91 (pc := 704) C c_X6_thrown (by omega) (by omega) (Nat.le_of_ble_eq_true rfl) dL_law_704 (fun z3 σ3 hq3 => ?_)
  obtain ⟨rfl, hq3⟩ := hq3
  rw [hq3]; clear hq3
  obtain ⟨o1, o2, o3, o4, o5⟩ := R5_fits h h1 hq hm
  rw [o1]
  refine o_iload (pc := 707) C dL_law_707 rfl ?_
  refine o_icmp_same (pc := 709) C (tgt := 714) dL_law_709 (by decide) ?_
  refine o_iload (pc := 714) C dL_law_714 rfl ?_
  refine o_if_ne (pc := 716) C (tgt := 738) dL_law_716 (by decide) (by omega) (fun hk1 => ?_) (fun hk1 => ?_)
  · refine o_goto (pc := 738) C (tgt := 1563) dL_law_738 (by decide) ?_
    exact kk _ _ _ _ o3 (by omega)
  · have o6 := o2 hk1
    have y01 : y = 0 ∨ y = 1 := by rw [← o6]; exact fits01 hq hm hk1
    refine o_aload_n (pc := 719) C dL_law_719 rfl ?_
    refine o_iconst (pc := 720) C dL_law_720 ?_
    refine o_lald (pc := 721) C dL_law_721 ?_
    rw [o6]
    refine o_iload (pc := 722) C dL_law_722 rfl ?_
    rcases y01 with rfl | rfl
    · refine o_if_eq (pc := 724) C (tgt := 731) dL_law_724 (by decide) (by decide) (fun _ => ?_) (fun q => absurd rfl q)
      refine o_lconst (pc := 731) C dL_law_731 (z := 0) rfl ?_
      refine o_lcmp_same (pc := 732) C dL_law_732 ?_
      refine o_if_eq (pc := 733) C (tgt := 738) dL_law_733 (by decide) (by decide) (fun _ => ?_) (fun q => absurd rfl q)
      refine o_goto (pc := 738) C (tgt := 1563) dL_law_738 (by decide) ?_
      exact kk _ _ _ _ o3 (by omega)
    · refine o_if_eq (pc := 724) C (tgt := 731) dL_law_724 (by decide) (by decide) (fun q => absurd q (by decide)) (fun _ => ?_)
      refine o_lconst (pc := 727) C dL_law_727 (z := 1) rfl ?_
      refine o_goto (pc := 728) C (tgt := 732) dL_law_728 (by decide) ?_
      refine o_lcmp_same (pc := 732) C dL_law_732 ?_
      refine o_if_eq (pc := 733) C (tgt := 738) dL_law_733 (by decide) (by decide) (fun _ => ?_) (fun q => absurd rfl q)
      refine o_goto (pc := 738) C (tgt := 1563) dL_law_738 (by decide) ?_
      exact kk _ _ _ _ o3 (by omega)
set_option maxRecDepth 100000 in
set_option maxHeartbeats 1000000 in
theorem law_10 {l : Launch} {g : oG} {mc : Nat} {x : oCtx} {σ : oMem} {k b L i : Nat} {xs : Nat → Int32} {v5 v6 : Option Value} (hfl : l.stackTraces = false) (C : oK l g RL cL_law 30 mc x) (S : oScr b L xs x) (hN : oNCx x) (hL : L ≤ 2560) (hi : i + 5 ≤ L) (h : Rel σ σ) (hk : k + 8 ≤ mc) (kk : ∀ (σ2 : oMem) (v5 v6 : Option Value) (k2 : Nat), Rel σ2 σ2 → k2 ≤ k + 8 → oW l g x σ2 1563 [some (.ref b), some (.ref (g.2.1 0 0)), some (.ref (g.2.1 24 0)), some (.ref (g.2.1 47 0)), some (oi (i : Int)), v5, v6] [] k2) : oW l g x σ 741 [some (.ref b), some (.ref (g.2.1 0 0)), some (.ref (g.2.1 24 0)), some (.ref (g.2.1 47 0)), some (oi (i : Int)), v5, v6] [] k := by
  refine o_aload_n (pc := 741) C dL_law_741 rfl ?_
  refine o_aload_n (pc := 742) C dL_law_742 rfl ?_
  refine o_iload (pc := 743) C dL_law_743 rfl ?_
  refine o_iconst (pc := 745) C dL_law_745 ?_
  refine o_iadd (pc := 746) C dL_law_746 ?_
  refine o_sld (pc := 747) (j := i + 1) S C (by omega) (by omega) hL dL_law_747 ?_
  refine o_aload_n (pc := 748) C dL_law_748 rfl ?_
  refine o_callSXh (pc := 749) (n := 3) (As := [.ref (g.2.1 0 0), oi (xs (i + 1)).toInt, .ref (g.2.1 47 0)]) (rest := []) hN C (c_L_fill hfl h.1 (InR_x _)) kw_15_19 kw_15_20 kw_6_0 kw_15_21 (by decide +kernel) (by decide) (by omega) (by omega) rfl (Nat.le_of_ble_eq_true rfl) dL_law_749 (fun k1 σ1 hq => ?_)
  have h1 := KR_fill h hq
  refine sti_5 (pc := 752) C dL_law_752 ?_
  refine o_aload_n (pc := 754) C dL_law_754 rfl ?_
  refine o_aload_n (pc := 755) C dL_law_755 rfl ?_
  refine o_iload (pc := 756) C dL_law_756 rfl ?_
  refine o_iconst (pc := 758) C dL_law_758 ?_
  refine o_iadd (pc := 759) C dL_law_759 ?_
  refine o_sld (pc := 760) (j := i + 1) S C (by omega) (by omega) hL dL_law_760 ?_
  refine cl_L_129 (pc := 761) C (cm_X6_fill h1.mi (InR_x _)) (by omega) (by omega) (Nat.le_of_ble_eq_true rfl) dL_law_761 (fun y σ2 hm => ?_)
  refine sti_6 (pc := 764) C dL_law_764 ?_
  refine o_aload_n (pc := 766) C dL_law_766 rfl ?_
  refine cl_L_91 (pc := 767) C c_X6_thrown (by omega) (by omega) (Nat.le_of_ble_eq_true rfl) dL_law_767 (fun z3 σ3 hq3 => ?_)
  obtain ⟨rfl, hq3⟩ := hq3
  rw [hq3]; clear hq3
  obtain ⟨o1, o2, o3, o4, o5⟩ := R5_fill h h1 hq hm
  rw [o1]
  refine o_iload (pc := 770) C dL_law_770 rfl ?_
  refine o_icmp_same (pc := 772) C (tgt := 777) dL_law_772 (by decide) ?_
  refine o_iload (pc := 777) C dL_law_777 rfl ?_
  refine o_if_ne (pc := 779) C (tgt := 794) dL_law_779 (by decide) (by omega) (fun hk1 => ?_) (fun hk1 => ?_)
  · refine o_goto (pc := 794) C (tgt := 1563) dL_law_794 (by decide) ?_
    exact kk _ _ _ _ o3 (by omega)
  · have o6 := o2 hk1
    refine o_aload_n (pc := 782) C dL_law_782 rfl ?_
    refine o_iconst (pc := 783) C dL_law_783 ?_
    refine o_lald (pc := 784) C dL_law_784 ?_
    rw [o6]
    refine o_iload (pc := 785) C dL_law_785 rfl ?_
    refine o_i2l (pc := 787) C dL_law_787 ?_
    refine o_lcmp_same (pc := 788) C dL_law_788 ?_
    refine o_if_eq (pc := 789) C (tgt := 794) dL_law_789 (by decide) (by decide) (fun _ => ?_) (fun q => absurd rfl q)
    refine o_goto (pc := 794) C (tgt := 1563) dL_law_794 (by decide) ?_
    exact kk _ _ _ _ o3 (by omega)
set_option maxRecDepth 100000 in
set_option maxHeartbeats 1000000 in
theorem law_11 {l : Launch} {g : oG} {mc : Nat} {x : oCtx} {σ : oMem} {k b L i : Nat} {xs : Nat → Int32} {v5 v6 : Option Value} (hfl : l.stackTraces = false) (C : oK l g RL cL_law 30 mc x) (S : oScr b L xs x) (hN : oNCx x) (hL : L ≤ 2560) (hi : i + 5 ≤ L) (h : Rel σ σ) (hk : k + 8 ≤ mc) (kk : ∀ (σ2 : oMem) (v5 v6 : Option Value) (k2 : Nat), Rel σ2 σ2 → k2 ≤ k + 8 → oW l g x σ2 1563 [some (.ref b), some (.ref (g.2.1 0 0)), some (.ref (g.2.1 24 0)), some (.ref (g.2.1 47 0)), some (oi (i : Int)), v5, v6] [] k2) : oW l g x σ 797 [some (.ref b), some (.ref (g.2.1 0 0)), some (.ref (g.2.1 24 0)), some (.ref (g.2.1 47 0)), some (oi (i : Int)), v5, v6] [] k := by
  refine o_aload_n (pc := 797) C dL_law_797 rfl ?_
  refine o_aload_n (pc := 798) C dL_law_798 rfl ?_
  refine o_iload (pc := 799) C dL_law_799 rfl ?_
  refine o_iconst (pc := 801) C dL_law_801 ?_
  refine o_iadd (pc := 802) C dL_law_802 ?_
  refine o_sld (pc := 803) (j := i + 1) S C (by omega) (by omega) hL dL_law_803 ?_
  refine o_aload_n (pc := 804) C dL_law_804 rfl ?_
  refine o_callSXh (pc := 805) (n := 3) (As := [.ref (g.2.1 0 0), oi (xs (i + 1)).toInt, .ref (g.2.1 47 0)]) (rest := []) hN C (c_L_fullestByTrying hfl h.1 (InR_x _)) kw_17_20 kw_17_21 kw_6_0 kw_17_22 (by decide +kernel) (by decide) (by omega) (by omega) rfl (Nat.le_of_ble_eq_true rfl) dL_law_805 (fun k1 σ1 hq => ?_)
  have h1 := KR_fullestByTrying h hq
  refine sti_5 (pc := 808) C dL_law_808 ?_
  refine o_aload_n (pc := 810) C dL_law_810 rfl ?_
  refine o_aload_n (pc := 811) C dL_law_811 rfl ?_
  refine o_iload (pc := 812) C dL_law_812 rfl ?_
  refine o_iconst (pc := 814) C dL_law_814 ?_
  refine o_iadd (pc := 815) C dL_law_815 ?_
  refine o_sld (pc := 816) (j := i + 1) S C (by omega) (by omega) hL dL_law_816 ?_
  refine cl_L_132 (pc := 817) C (cm_X6_fullestByTrying h1.mi (InR_x _)) (by omega) (by omega) (Nat.le_of_ble_eq_true rfl) dL_law_817 (fun y σ2 hm => ?_)
  refine sti_6 (pc := 820) C dL_law_820 ?_
  refine o_aload_n (pc := 822) C dL_law_822 rfl ?_
  refine cl_L_91 (pc := 823) C c_X6_thrown (by omega) (by omega) (Nat.le_of_ble_eq_true rfl) dL_law_823 (fun z3 σ3 hq3 => ?_)
  obtain ⟨rfl, hq3⟩ := hq3
  rw [hq3]; clear hq3
  obtain ⟨o1, o2, o3, o4, o5⟩ := R5_fullestByTrying h h1 hq hm
  rw [o1]
  refine o_iload (pc := 826) C dL_law_826 rfl ?_
  refine o_icmp_same (pc := 828) C (tgt := 833) dL_law_828 (by decide) ?_
  refine o_iload (pc := 833) C dL_law_833 rfl ?_
  refine o_if_ne (pc := 835) C (tgt := 850) dL_law_835 (by decide) (by omega) (fun hk1 => ?_) (fun hk1 => ?_)
  · refine o_goto (pc := 850) C (tgt := 1563) dL_law_850 (by decide) ?_
    exact kk _ _ _ _ o3 (by omega)
  · have o6 := o2 hk1
    refine o_aload_n (pc := 838) C dL_law_838 rfl ?_
    refine o_iconst (pc := 839) C dL_law_839 ?_
    refine o_lald (pc := 840) C dL_law_840 ?_
    rw [o6]
    refine o_iload (pc := 841) C dL_law_841 rfl ?_
    refine o_i2l (pc := 843) C dL_law_843 ?_
    refine o_lcmp_same (pc := 844) C dL_law_844 ?_
    refine o_if_eq (pc := 845) C (tgt := 850) dL_law_845 (by decide) (by decide) (fun _ => ?_) (fun q => absurd rfl q)
    refine o_goto (pc := 850) C (tgt := 1563) dL_law_850 (by decide) ?_
    exact kk _ _ _ _ o3 (by omega)
set_option maxRecDepth 100000 in
set_option maxHeartbeats 1000000 in
theorem law_12 {l : Launch} {g : oG} {mc : Nat} {x : oCtx} {σ : oMem} {k b L i : Nat} {xs : Nat → Int32} {v5 v6 : Option Value} (hfl : l.stackTraces = false) (C : oK l g RL cL_law 30 mc x) (S : oScr b L xs x) (hN : oNCx x) (hL : L ≤ 2560) (hi : i + 5 ≤ L) (h : Rel σ σ) (hk : k + 8 ≤ mc) (kk : ∀ (σ2 : oMem) (v5 v6 : Option Value) (k2 : Nat), Rel σ2 σ2 → k2 ≤ k + 8 → oW l g x σ2 1563 [some (.ref b), some (.ref (g.2.1 0 0)), some (.ref (g.2.1 24 0)), some (.ref (g.2.1 47 0)), some (oi (i : Int)), v5, v6] [] k2) : oW l g x σ 853 [some (.ref b), some (.ref (g.2.1 0 0)), some (.ref (g.2.1 24 0)), some (.ref (g.2.1 47 0)), some (oi (i : Int)), v5, v6] [] k := by
  refine o_aload_n (pc := 853) C dL_law_853 rfl ?_
  refine o_aload_n (pc := 854) C dL_law_854 rfl ?_
  refine o_iload (pc := 855) C dL_law_855 rfl ?_
  refine o_iconst (pc := 857) C dL_law_857 ?_
  refine o_iadd (pc := 858) C dL_law_858 ?_
  refine o_sld (pc := 859) (j := i + 1) S C (by omega) (by omega) hL dL_law_859 ?_
  refine o_aload_n (pc := 860) C dL_law_860 rfl ?_
  refine o_iload (pc := 861) C dL_law_861 rfl ?_
  refine o_iconst (pc := 863) C dL_law_863 ?_
  refine o_iadd (pc := 864) C dL_law_864 ?_
  refine o_sld (pc := 865) (j := i + 2) S C (by omega) (by omega) hL dL_law_865 ?_
  refine o_aload_n (pc := 866) C dL_law_866 rfl ?_
  refine o_callSXh (pc := 867) (n := 4) (As := [.ref (g.2.1 0 0), oi (xs (i + 1)).toInt, oi (xs (i + 2)).toInt, .ref (g.2.1 47 0)]) (rest := []) hN C (c_L_run hfl h.1 (InR_x _) (InR_x _)) kw_18_14 kw_18_15 kw_6_0 kw_18_16 (by decide +kernel) (by decide) (by omega) (by omega) rfl (Nat.le_of_ble_eq_true rfl) dL_law_867 (fun k1 σ1 hq => ?_)
  have h1 := KR_run h hq
  refine sti_5 (pc := 870) C dL_law_870 ?_
  refine o_aload_n (pc := 872) C dL_law_872 rfl ?_
  refine o_aload_n (pc := 873) C dL_law_873 rfl ?_
  refine o_iload (pc := 874) C dL_law_874 rfl ?_
  refine o_iconst (pc := 876) C dL_law_876 ?_
  refine o_iadd (pc := 877) C dL_law_877 ?_
  refine o_sld (pc := 878) (j := i + 1) S C (by omega) (by omega) hL dL_law_878 ?_
  refine o_aload_n (pc := 879) C dL_law_879 rfl ?_
  refine o_iload (pc := 880) C dL_law_880 rfl ?_
  refine o_iconst (pc := 882) C dL_law_882 ?_
  refine o_iadd (pc := 883) C dL_law_883 ?_
  refine o_sld (pc := 884) (j := i + 2) S C (by omega) (by omega) hL dL_law_884 ?_
  refine cl_L_135 (pc := 885) C (cm_X6_run h1.mi (InR_x _) (InR_x _)) (by omega) (by omega) (Nat.le_of_ble_eq_true rfl) dL_law_885 (fun y σ2 hm => ?_)
  refine sti_6 (pc := 888) C dL_law_888 ?_
  refine o_aload_n (pc := 890) C dL_law_890 rfl ?_
  refine cl_L_91 (pc := 891) C c_X6_thrown (by omega) (by omega) (Nat.le_of_ble_eq_true rfl) dL_law_891 (fun z3 σ3 hq3 => ?_)
  obtain ⟨rfl, hq3⟩ := hq3
  rw [hq3]; clear hq3
  obtain ⟨o1, o2, o3, o4, o5⟩ := R5_run h h1 hq hm
  rw [o1]
  refine o_iload (pc := 894) C dL_law_894 rfl ?_
  refine o_icmp_same (pc := 896) C (tgt := 901) dL_law_896 (by decide) ?_
  refine o_iload (pc := 901) C dL_law_901 rfl ?_
  refine o_if_ne (pc := 903) C (tgt := 918) dL_law_903 (by decide) (by omega) (fun hk1 => ?_) (fun hk1 => ?_)
  · refine o_goto (pc := 918) C (tgt := 1563) dL_law_918 (by decide) ?_
    exact kk _ _ _ _ o3 (by omega)
  · have o6 := o2 hk1
    refine o_aload_n (pc := 906) C dL_law_906 rfl ?_
    refine o_iconst (pc := 907) C dL_law_907 ?_
    refine o_lald (pc := 908) C dL_law_908 ?_
    rw [o6]
    refine o_iload (pc := 909) C dL_law_909 rfl ?_
    refine o_i2l (pc := 911) C dL_law_911 ?_
    refine o_lcmp_same (pc := 912) C dL_law_912 ?_
    refine o_if_eq (pc := 913) C (tgt := 918) dL_law_913 (by decide) (by decide) (fun _ => ?_) (fun q => absurd rfl q)
    refine o_goto (pc := 918) C (tgt := 1563) dL_law_918 (by decide) ?_
    exact kk _ _ _ _ o3 (by omega)
set_option maxRecDepth 100000 in
set_option maxHeartbeats 1000000 in
theorem law_13 {l : Launch} {g : oG} {mc : Nat} {x : oCtx} {σ : oMem} {k b L i : Nat} {xs : Nat → Int32} {v5 v6 : Option Value} (hfl : l.stackTraces = false) (C : oK l g RL cL_law 30 mc x) (S : oScr b L xs x) (hN : oNCx x) (hL : L ≤ 2560) (hi : i + 5 ≤ L) (h : Rel σ σ) (hk : k + 8 ≤ mc) (kk : ∀ (σ2 : oMem) (v5 v6 : Option Value) (k2 : Nat), Rel σ2 σ2 → k2 ≤ k + 8 → oW l g x σ2 1563 [some (.ref b), some (.ref (g.2.1 0 0)), some (.ref (g.2.1 24 0)), some (.ref (g.2.1 47 0)), some (oi (i : Int)), v5, v6] [] k2) : oW l g x σ 921 [some (.ref b), some (.ref (g.2.1 0 0)), some (.ref (g.2.1 24 0)), some (.ref (g.2.1 47 0)), some (oi (i : Int)), v5, v6] [] k := by
  refine o_aload_n (pc := 921) C dL_law_921 rfl ?_
  refine o_aload_n (pc := 922) C dL_law_922 rfl ?_
  refine o_iload (pc := 923) C dL_law_923 rfl ?_
  refine o_iconst (pc := 925) C dL_law_925 ?_
  refine o_iadd (pc := 926) C dL_law_926 ?_
  refine o_sld (pc := 927) (j := i + 1) S C (by omega) (by omega) hL dL_law_927 ?_
  refine o_aload_n (pc := 928) C dL_law_928 rfl ?_
  refine o_callSXh (pc := 929) (n := 3) (As := [.ref (g.2.1 0 0), oi (xs (i + 1)).toInt, .ref (g.2.1 47 0)]) (rest := []) hN C (c_L_moves hfl h.1 (InR_x _)) kw_21_4 kw_21_5 kw_6_0 kw_21_6 (by decide +kernel) (by decide) (by omega) (by omega) rfl (Nat.le_of_ble_eq_true rfl) dL_law_929 (fun k1 σ1 hq => ?_)
  have h1 := KR_moves h hq
  refine sti_5 (pc := 932) C dL_law_932 ?_
  refine o_aload_n (pc := 934) C dL_law_934 rfl ?_
  refine o_aload_n (pc := 935) C dL_law_935 rfl ?_
  refine o_iload (pc := 936) C dL_law_936 rfl ?_
  refine o_iconst (pc := 938) C dL_law_938 ?_
  refine o_iadd (pc := 939) C dL_law_939 ?_
  refine o_sld (pc := 940) (j := i + 1) S C (by omega) (by omega) hL dL_law_940 ?_
  refine cl_L_138 (pc := 941) C (cm_X6_moves h1.mi (InR_x _)) (by omega) (by omega) (Nat.le_of_ble_eq_true rfl) dL_law_941 (fun y σ2 hm => ?_)
  refine sti_6 (pc := 944) C dL_law_944 ?_
  refine o_aload_n (pc := 946) C dL_law_946 rfl ?_
  refine cl_L_91 (pc := 947) C c_X6_thrown (by omega) (by omega) (Nat.le_of_ble_eq_true rfl) dL_law_947 (fun z3 σ3 hq3 => ?_)
  obtain ⟨rfl, hq3⟩ := hq3
  rw [hq3]; clear hq3
  obtain ⟨o1, o2, o3, o4, o5⟩ := R5_moves h h1 hq hm
  rw [o1]
  refine o_iload (pc := 950) C dL_law_950 rfl ?_
  refine o_icmp_same (pc := 952) C (tgt := 957) dL_law_952 (by decide) ?_
  refine o_iload (pc := 957) C dL_law_957 rfl ?_
  refine o_if_ne (pc := 959) C (tgt := 974) dL_law_959 (by decide) (by omega) (fun hk1 => ?_) (fun hk1 => ?_)
  · refine o_goto (pc := 974) C (tgt := 1563) dL_law_974 (by decide) ?_
    exact kk _ _ _ _ o3 (by omega)
  · have o6 := o2 hk1
    refine o_aload_n (pc := 962) C dL_law_962 rfl ?_
    refine o_iconst (pc := 963) C dL_law_963 ?_
    refine o_lald (pc := 964) C dL_law_964 ?_
    rw [o6]
    refine o_iload (pc := 965) C dL_law_965 rfl ?_
    refine o_i2l (pc := 967) C dL_law_967 ?_
    refine o_lcmp_same (pc := 968) C dL_law_968 ?_
    refine o_if_eq (pc := 969) C (tgt := 974) dL_law_969 (by decide) (by decide) (fun _ => ?_) (fun q => absurd rfl q)
    refine o_goto (pc := 974) C (tgt := 1563) dL_law_974 (by decide) ?_
    exact kk _ _ _ _ o3 (by omega)
set_option maxRecDepth 100000 in
set_option maxHeartbeats 1000000 in
theorem law_14 {l : Launch} {g : oG} {mc : Nat} {x : oCtx} {σ : oMem} {k b L i : Nat} {xs : Nat → Int32} {v5 v6 : Option Value} (hfl : l.stackTraces = false) (C : oK l g RL cL_law 30 mc x) (S : oScr b L xs x) (hN : oNCx x) (hL : L ≤ 2560) (hi : i + 5 ≤ L) (h : Rel σ σ) (hk : k + 8 ≤ mc) (kk : ∀ (σ2 : oMem) (v5 v6 : Option Value) (k2 : Nat), Rel σ2 σ2 → k2 ≤ k + 8 → oW l g x σ2 1563 [some (.ref b), some (.ref (g.2.1 0 0)), some (.ref (g.2.1 24 0)), some (.ref (g.2.1 47 0)), some (oi (i : Int)), v5, v6] [] k2) : oW l g x σ 977 [some (.ref b), some (.ref (g.2.1 0 0)), some (.ref (g.2.1 24 0)), some (.ref (g.2.1 47 0)), some (oi (i : Int)), v5, v6] [] k := by
  refine o_aload_n (pc := 977) C dL_law_977 rfl ?_
  refine cl_L_139 (pc := 978) C c_X5_moved (by omega) (by omega) (Nat.le_of_ble_eq_true rfl) dL_law_978 (fun k1 σ1 hq => ?_)
  have hq : P5_moved σ k1 σ1 := hq
  have h1 := KR_moved h hq
  refine o_aload_n (pc := 981) C dL_law_981 rfl ?_
  refine cl_L_142 (pc := 982) C (cm_X6_moved h1.mi) (by omega) (by omega) (Nat.le_of_ble_eq_true rfl) dL_law_982 (fun y σ2 hm => ?_)
  obtain ⟨o1, o3⟩ := R5_moved h h1 hq hm
  rw [o1]
  refine o_icmp_same (pc := 985) C (tgt := 1563) dL_law_985 (by decide) ?_
  exact kk _ _ _ _ o3 (by omega)
set_option maxRecDepth 100000 in
set_option maxHeartbeats 1000000 in
theorem law_15 {l : Launch} {g : oG} {mc : Nat} {x : oCtx} {σ : oMem} {k b L i : Nat} {xs : Nat → Int32} {v5 v6 : Option Value} (hfl : l.stackTraces = false) (C : oK l g RL cL_law 30 mc x) (S : oScr b L xs x) (hN : oNCx x) (hL : L ≤ 2560) (hi : i + 5 ≤ L) (h : Rel σ σ) (hk : k + 8 ≤ mc) (kk : ∀ (σ2 : oMem) (v5 v6 : Option Value) (k2 : Nat), Rel σ2 σ2 → k2 ≤ k + 8 → oW l g x σ2 1563 [some (.ref b), some (.ref (g.2.1 0 0)), some (.ref (g.2.1 24 0)), some (.ref (g.2.1 47 0)), some (oi (i : Int)), v5, v6] [] k2) : oW l g x σ 990 [some (.ref b), some (.ref (g.2.1 0 0)), some (.ref (g.2.1 24 0)), some (.ref (g.2.1 47 0)), some (oi (i : Int)), v5, v6] [] k := by
  refine o_aload_n (pc := 990) C dL_law_990 rfl ?_
  refine o_aload_n (pc := 991) C dL_law_991 rfl ?_
  refine o_iload (pc := 992) C dL_law_992 rfl ?_
  refine o_iconst (pc := 994) C dL_law_994 ?_
  refine o_iadd (pc := 995) C dL_law_995 ?_
  refine o_sld (pc := 996) (j := i + 1) S C (by omega) (by omega) hL dL_law_996 ?_
  refine o_aload_n (pc := 997) C dL_law_997 rfl ?_
  refine o_iload (pc := 998) C dL_law_998 rfl ?_
  refine o_iconst (pc := 1000) C dL_law_1000 ?_
  refine o_iadd (pc := 1001) C dL_law_1001 ?_
  refine o_sld (pc := 1002) (j := i + 2) S C (by omega) (by omega) hL dL_law_1002 ?_
  refine o_aload_n (pc := 1003) C dL_law_1003 rfl ?_
  refine o_callSXh (pc := 1004) (n := 4) (As := [.ref (g.2.1 0 0), oi (xs (i + 1)).toInt, oi (xs (i + 2)).toInt, .ref (g.2.1 47 0)]) (rest := []) hN C (c_L_plan hfl h.1 (InR_x _) (InR_x _)) kw_21_23 kw_22_0 kw_6_0 kw_22_1 (by decide +kernel) (by decide) (by omega) (by omega) rfl (Nat.le_of_ble_eq_true rfl) dL_law_1004 (fun k1 σ1 hq => ?_)
  have h1 := KR_plan h hq
  refine sti_5 (pc := 1007) C dL_law_1007 ?_
  refine o_aload_n (pc := 1009) C dL_law_1009 rfl ?_
  refine o_aload_n (pc := 1010) C dL_law_1010 rfl ?_
  refine o_iload (pc := 1011) C dL_law_1011 rfl ?_
  refine o_iconst (pc := 1013) C dL_law_1013 ?_
  refine o_iadd (pc := 1014) C dL_law_1014 ?_
  refine o_sld (pc := 1015) (j := i + 1) S C (by omega) (by omega) hL dL_law_1015 ?_
  refine o_aload_n (pc := 1016) C dL_law_1016 rfl ?_
  refine o_iload (pc := 1017) C dL_law_1017 rfl ?_
  refine o_iconst (pc := 1019) C dL_law_1019 ?_
  refine o_iadd (pc := 1020) C dL_law_1020 ?_
  refine o_sld (pc := 1021) (j := i + 2) S C (by omega) (by omega) hL dL_law_1021 ?_
  refine cl_L_145 (pc := 1022) C (cm_X6_plan h1.mi (InR_x _) (InR_x _)) (by omega) (by omega) (Nat.le_of_ble_eq_true rfl) dL_law_1022 (fun y σ2 hm => ?_)
  refine sti_6 (pc := 1025) C dL_law_1025 ?_
  refine o_aload_n (pc := 1027) C dL_law_1027 rfl ?_
  refine cl_L_91 (pc := 1028) C c_X6_thrown (by omega) (by omega) (Nat.le_of_ble_eq_true rfl) dL_law_1028 (fun z3 σ3 hq3 => ?_)
  obtain ⟨rfl, hq3⟩ := hq3
  rw [hq3]; clear hq3
  obtain ⟨o1, o2, o3, o4, o5⟩ := R5_plan h h1 hq hm
  rw [o1]
  refine o_iload (pc := 1031) C dL_law_1031 rfl ?_
  refine o_icmp_same (pc := 1033) C (tgt := 1038) dL_law_1033 (by decide) ?_
  refine o_iload (pc := 1038) C dL_law_1038 rfl ?_
  refine o_if_ne (pc := 1040) C (tgt := 1055) dL_law_1040 (by decide) (by omega) (fun hk1 => ?_) (fun hk1 => ?_)
  · refine o_goto (pc := 1055) C (tgt := 1563) dL_law_1055 (by decide) ?_
    exact kk _ _ _ _ o3 (by omega)
  · have o6 := o2 hk1
    refine o_aload_n (pc := 1043) C dL_law_1043 rfl ?_
    refine o_iconst (pc := 1044) C dL_law_1044 ?_
    refine o_lald (pc := 1045) C dL_law_1045 ?_
    rw [o6]
    refine o_iload (pc := 1046) C dL_law_1046 rfl ?_
    refine o_i2l (pc := 1048) C dL_law_1048 ?_
    refine o_lcmp_same (pc := 1049) C dL_law_1049 ?_
    refine o_if_eq (pc := 1050) C (tgt := 1055) dL_law_1050 (by decide) (by decide) (fun _ => ?_) (fun q => absurd rfl q)
    refine o_goto (pc := 1055) C (tgt := 1563) dL_law_1055 (by decide) ?_
    exact kk _ _ _ _ o3 (by omega)
set_option maxRecDepth 100000 in
set_option maxHeartbeats 1000000 in
theorem law_16 {l : Launch} {g : oG} {mc : Nat} {x : oCtx} {σ : oMem} {k b L i : Nat} {xs : Nat → Int32} {v5 v6 : Option Value} (hfl : l.stackTraces = false) (C : oK l g RL cL_law 30 mc x) (S : oScr b L xs x) (hN : oNCx x) (hL : L ≤ 2560) (hi : i + 5 ≤ L) (h : Rel σ σ) (hk : k + 8 ≤ mc) (kk : ∀ (σ2 : oMem) (v5 v6 : Option Value) (k2 : Nat), Rel σ2 σ2 → k2 ≤ k + 8 → oW l g x σ2 1563 [some (.ref b), some (.ref (g.2.1 0 0)), some (.ref (g.2.1 24 0)), some (.ref (g.2.1 47 0)), some (oi (i : Int)), v5, v6] [] k2) : oW l g x σ 1058 [some (.ref b), some (.ref (g.2.1 0 0)), some (.ref (g.2.1 24 0)), some (.ref (g.2.1 47 0)), some (oi (i : Int)), v5, v6] [] k := by
  refine o_aload_n (pc := 1058) C dL_law_1058 rfl ?_
  refine cl_L_146 (pc := 1059) C c_X5_waiting (by omega) (by omega) (Nat.le_of_ble_eq_true rfl) dL_law_1059 (fun k1 σ1 hq => ?_)
  have hq : P5_waiting σ k1 σ1 := hq
  have h1 := KR_waiting h hq
  refine o_aload_n (pc := 1062) C dL_law_1062 rfl ?_
  refine cl_L_149 (pc := 1063) C (cm_X6_waiting h1.mi) (by omega) (by omega) (Nat.le_of_ble_eq_true rfl) dL_law_1063 (fun y σ2 hm => ?_)
  obtain ⟨o1, o3⟩ := R5_waiting h h1 hq hm
  rw [o1]
  refine o_icmp_same (pc := 1066) C (tgt := 1563) dL_law_1066 (by decide) ?_
  exact kk _ _ _ _ o3 (by omega)
set_option maxRecDepth 100000 in
set_option maxHeartbeats 1000000 in
theorem law_17 {l : Launch} {g : oG} {mc : Nat} {x : oCtx} {σ : oMem} {k b L i : Nat} {xs : Nat → Int32} {v5 v6 : Option Value} (hfl : l.stackTraces = false) (C : oK l g RL cL_law 30 mc x) (S : oScr b L xs x) (hN : oNCx x) (hL : L ≤ 2560) (hi : i + 5 ≤ L) (h : Rel σ σ) (hk : k + 8 ≤ mc) (kk : ∀ (σ2 : oMem) (v5 v6 : Option Value) (k2 : Nat), Rel σ2 σ2 → k2 ≤ k + 8 → oW l g x σ2 1563 [some (.ref b), some (.ref (g.2.1 0 0)), some (.ref (g.2.1 24 0)), some (.ref (g.2.1 47 0)), some (oi (i : Int)), v5, v6] [] k2) : oW l g x σ 1071 [some (.ref b), some (.ref (g.2.1 0 0)), some (.ref (g.2.1 24 0)), some (.ref (g.2.1 47 0)), some (oi (i : Int)), v5, v6] [] k := by
  refine o_aload_n (pc := 1071) C dL_law_1071 rfl ?_
  refine cl_L_150 (pc := 1072) C (c_X5_fewestMoves h.1) (by omega) (by omega) (Nat.le_of_ble_eq_true rfl) dL_law_1072 (fun k1 σ1 hq => ?_)
  have hq : P5_fewestMoves σ k1 σ1 := hq
  have h1 := KR_fewestMoves h hq
  refine o_aload_n (pc := 1075) C dL_law_1075 rfl ?_
  refine cl_L_153 (pc := 1076) C (cm_X6_fewestMoves h1) (by omega) (by omega) (Nat.le_of_ble_eq_true rfl) dL_law_1076 (fun y σ2 hm => ?_)
  obtain ⟨o1, o3⟩ := R5_fewestMoves h h1 hq hm
  rw [o1]
  refine o_icmp_same (pc := 1079) C (tgt := 1563) dL_law_1079 (by decide) ?_
  exact kk _ _ _ _ o3 (by omega)
set_option maxRecDepth 100000 in
set_option maxHeartbeats 1000000 in
theorem law_18 {l : Launch} {g : oG} {mc : Nat} {x : oCtx} {σ : oMem} {k b L i : Nat} {xs : Nat → Int32} {v5 v6 : Option Value} (hfl : l.stackTraces = false) (C : oK l g RL cL_law 30 mc x) (S : oScr b L xs x) (hN : oNCx x) (hL : L ≤ 2560) (hi : i + 5 ≤ L) (h : Rel σ σ) (hk : k + 8 ≤ mc) (kk : ∀ (σ2 : oMem) (v5 v6 : Option Value) (k2 : Nat), Rel σ2 σ2 → k2 ≤ k + 8 → oW l g x σ2 1563 [some (.ref b), some (.ref (g.2.1 0 0)), some (.ref (g.2.1 24 0)), some (.ref (g.2.1 47 0)), some (oi (i : Int)), v5, v6] [] k2) : oW l g x σ 1084 [some (.ref b), some (.ref (g.2.1 0 0)), some (.ref (g.2.1 24 0)), some (.ref (g.2.1 47 0)), some (oi (i : Int)), v5, v6] [] k := by
  refine o_aload_n (pc := 1084) C dL_law_1084 rfl ?_
  refine cl_L_154 (pc := 1085) C (c_X5_fewestByTrying h.1) (by omega) (by omega) (Nat.le_of_ble_eq_true rfl) dL_law_1085 (fun k1 σ1 hq => ?_)
  have hq : P5_fewestByTrying σ k1 σ1 := hq
  have h1 := KR_fewestByTrying h hq
  refine o_aload_n (pc := 1088) C dL_law_1088 rfl ?_
  refine cl_L_157 (pc := 1089) C (cm_X6_fewestByTrying h1) (by omega) (by omega) (Nat.le_of_ble_eq_true rfl) dL_law_1089 (fun y σ2 hm => ?_)
  obtain ⟨o1, o3⟩ := R5_fewestByTrying h h1 hq hm
  rw [o1]
  refine o_icmp_same (pc := 1092) C (tgt := 1563) dL_law_1092 (by decide) ?_
  exact kk _ _ _ _ o3 (by omega)
set_option maxRecDepth 100000 in
set_option maxHeartbeats 1000000 in
theorem law_19 {l : Launch} {g : oG} {mc : Nat} {x : oCtx} {σ : oMem} {k b L i : Nat} {xs : Nat → Int32} {v5 v6 : Option Value} (hfl : l.stackTraces = false) (C : oK l g RL cL_law 30 mc x) (S : oScr b L xs x) (hN : oNCx x) (hL : L ≤ 2560) (hi : i + 5 ≤ L) (h : Rel σ σ) (hk : k + 8 ≤ mc) (kk : ∀ (σ2 : oMem) (v5 v6 : Option Value) (k2 : Nat), Rel σ2 σ2 → k2 ≤ k + 8 → oW l g x σ2 1563 [some (.ref b), some (.ref (g.2.1 0 0)), some (.ref (g.2.1 24 0)), some (.ref (g.2.1 47 0)), some (oi (i : Int)), v5, v6] [] k2) : oW l g x σ 1097 [some (.ref b), some (.ref (g.2.1 0 0)), some (.ref (g.2.1 24 0)), some (.ref (g.2.1 47 0)), some (oi (i : Int)), v5, v6] [] k := by
  refine o_aload_n (pc := 1097) C dL_law_1097 rfl ?_
  refine o_aload_n (pc := 1098) C dL_law_1098 rfl ?_
  refine o_iload (pc := 1099) C dL_law_1099 rfl ?_
  refine o_iconst (pc := 1101) C dL_law_1101 ?_
  refine o_iadd (pc := 1102) C dL_law_1102 ?_
  refine o_sld (pc := 1103) (j := i + 1) S C (by omega) (by omega) hL dL_law_1103 ?_
  refine o_aload_n (pc := 1104) C dL_law_1104 rfl ?_
  refine o_callSXh (pc := 1105) (n := 3) (As := [.ref (g.2.1 0 0), oi (xs (i + 1)).toInt, .ref (g.2.1 47 0)]) (rest := []) hN C (c_L_nextAt hfl h.1 (InR_x _)) kw_25_3 kw_25_4 kw_6_0 kw_25_5 (by decide +kernel) (by decide) (by omega) (by omega) rfl (Nat.le_of_ble_eq_true rfl) dL_law_1105 (fun k1 σ1 hq => ?_)
  have h1 := KR_nextAt h hq
  refine sti_5 (pc := 1108) C dL_law_1108 ?_
  refine o_aload_n (pc := 1110) C dL_law_1110 rfl ?_
  refine o_aload_n (pc := 1111) C dL_law_1111 rfl ?_
  refine o_iload (pc := 1112) C dL_law_1112 rfl ?_
  refine o_iconst (pc := 1114) C dL_law_1114 ?_
  refine o_iadd (pc := 1115) C dL_law_1115 ?_
  refine o_sld (pc := 1116) (j := i + 1) S C (by omega) (by omega) hL dL_law_1116 ?_
  refine cl_L_160 (pc := 1117) C (cm_X6_nextAt h1 (InR_x _)) (by omega) (by omega) (Nat.le_of_ble_eq_true rfl) dL_law_1117 (fun y σ2 hm => ?_)
  refine sti_6 (pc := 1120) C dL_law_1120 ?_
  refine o_aload_n (pc := 1122) C dL_law_1122 rfl ?_
  refine cl_L_91 (pc := 1123) C c_X6_thrown (by omega) (by omega) (Nat.le_of_ble_eq_true rfl) dL_law_1123 (fun z3 σ3 hq3 => ?_)
  obtain ⟨rfl, hq3⟩ := hq3
  rw [hq3]; clear hq3
  obtain ⟨o1, o2, o3, o4, o5⟩ := R5_nextAt h h1 hq hm
  rw [o1]
  refine o_iload (pc := 1126) C dL_law_1126 rfl ?_
  refine o_icmp_same (pc := 1128) C (tgt := 1133) dL_law_1128 (by decide) ?_
  refine o_iload (pc := 1133) C dL_law_1133 rfl ?_
  refine o_if_ne (pc := 1135) C (tgt := 1150) dL_law_1135 (by decide) (by omega) (fun hk1 => ?_) (fun hk1 => ?_)
  · refine o_goto (pc := 1150) C (tgt := 1563) dL_law_1150 (by decide) ?_
    exact kk _ _ _ _ o3 (by omega)
  · have o6 := o2 hk1
    refine o_aload_n (pc := 1138) C dL_law_1138 rfl ?_
    refine o_iconst (pc := 1139) C dL_law_1139 ?_
    refine o_lald (pc := 1140) C dL_law_1140 ?_
    rw [o6]
    refine o_iload (pc := 1141) C dL_law_1141 rfl ?_
    refine o_i2l (pc := 1143) C dL_law_1143 ?_
    refine o_lcmp_same (pc := 1144) C dL_law_1144 ?_
    refine o_if_eq (pc := 1145) C (tgt := 1150) dL_law_1145 (by decide) (by decide) (fun _ => ?_) (fun q => absurd rfl q)
    refine o_goto (pc := 1150) C (tgt := 1563) dL_law_1150 (by decide) ?_
    exact kk _ _ _ _ o3 (by omega)
set_option maxRecDepth 100000 in
set_option maxHeartbeats 1000000 in
theorem law_20 {l : Launch} {g : oG} {mc : Nat} {x : oCtx} {σ : oMem} {k b L i : Nat} {xs : Nat → Int32} {v5 v6 : Option Value} (hfl : l.stackTraces = false) (C : oK l g RL cL_law 30 mc x) (S : oScr b L xs x) (hN : oNCx x) (hL : L ≤ 2560) (hi : i + 5 ≤ L) (h : Rel σ σ) (hk : k + 8 ≤ mc) (kk : ∀ (σ2 : oMem) (v5 v6 : Option Value) (k2 : Nat), Rel σ2 σ2 → k2 ≤ k + 8 → oW l g x σ2 1563 [some (.ref b), some (.ref (g.2.1 0 0)), some (.ref (g.2.1 24 0)), some (.ref (g.2.1 47 0)), some (oi (i : Int)), v5, v6] [] k2) : oW l g x σ 1153 [some (.ref b), some (.ref (g.2.1 0 0)), some (.ref (g.2.1 24 0)), some (.ref (g.2.1 47 0)), some (oi (i : Int)), v5, v6] [] k := by
  refine o_aload_n (pc := 1153) C dL_law_1153 rfl ?_
  refine cl_L_161 (pc := 1154) C (c_X5_runAll h.1) (by omega) (by omega) (Nat.le_of_ble_eq_true rfl) dL_law_1154 (fun k1 σ1 hq => ?_)
  have hq : P5_runAll σ k1 σ1 := hq
  have h1 := KR_runAll h hq
  refine o_aload_n (pc := 1157) C dL_law_1157 rfl ?_
  refine cl_L_164 (pc := 1158) C (cm_X6_runAll h1) (by omega) (by omega) (Nat.le_of_ble_eq_true rfl) dL_law_1158 (fun y σ2 hm => ?_)
  obtain ⟨o1, o3⟩ := R5_runAll h h1 hq hm
  rw [o1]
  refine o_icmp_same (pc := 1161) C (tgt := 1563) dL_law_1161 (by decide) ?_
  exact kk _ _ _ _ o3 (by omega)
set_option maxRecDepth 100000 in
set_option maxHeartbeats 1000000 in
theorem law_21 {l : Launch} {g : oG} {mc : Nat} {x : oCtx} {σ : oMem} {k b L i : Nat} {xs : Nat → Int32} {v5 v6 : Option Value} (hfl : l.stackTraces = false) (C : oK l g RL cL_law 30 mc x) (S : oScr b L xs x) (hN : oNCx x) (hL : L ≤ 2560) (hi : i + 5 ≤ L) (h : Rel σ σ) (hk : k + 8 ≤ mc) (kk : ∀ (σ2 : oMem) (v5 v6 : Option Value) (k2 : Nat), Rel σ2 σ2 → k2 ≤ k + 8 → oW l g x σ2 1563 [some (.ref b), some (.ref (g.2.1 0 0)), some (.ref (g.2.1 24 0)), some (.ref (g.2.1 47 0)), some (oi (i : Int)), v5, v6] [] k2) : oW l g x σ 1166 [some (.ref b), some (.ref (g.2.1 0 0)), some (.ref (g.2.1 24 0)), some (.ref (g.2.1 47 0)), some (oi (i : Int)), v5, v6] [] k := by
  refine o_aload_n (pc := 1166) C dL_law_1166 rfl ?_
  refine o_aload_n (pc := 1167) C dL_law_1167 rfl ?_
  refine o_iload (pc := 1168) C dL_law_1168 rfl ?_
  refine o_iconst (pc := 1170) C dL_law_1170 ?_
  refine o_iadd (pc := 1171) C dL_law_1171 ?_
  refine o_sld (pc := 1172) (j := i + 1) S C (by omega) (by omega) hL dL_law_1172 ?_
  refine o_aload_n (pc := 1173) C dL_law_1173 rfl ?_
  refine o_callSXh (pc := 1174) (n := 3) (As := [.ref (g.2.1 0 0), oi (xs (i + 1)).toInt, .ref (g.2.1 47 0)]) (rest := []) hN C (c_L_slits hfl h.1 (InR_x _)) kw_26_6 kw_26_7 kw_6_0 kw_26_8 (by decide +kernel) (by decide) (by omega) (by omega) rfl (Nat.le_of_ble_eq_true rfl) dL_law_1174 (fun k1 σ1 hq => ?_)
  have h1 := KR_slits h hq
  refine sti_5 (pc := 1177) C dL_law_1177 ?_
  refine o_aload_n (pc := 1179) C dL_law_1179 rfl ?_
  refine o_aload_n (pc := 1180) C dL_law_1180 rfl ?_
  refine o_iload (pc := 1181) C dL_law_1181 rfl ?_
  refine o_iconst (pc := 1183) C dL_law_1183 ?_
  refine o_iadd (pc := 1184) C dL_law_1184 ?_
  refine o_sld (pc := 1185) (j := i + 1) S C (by omega) (by omega) hL dL_law_1185 ?_
  refine cl_L_167 (pc := 1186) C (cm_X6_slits h1.mi (InR_x _)) (by omega) (by omega) (Nat.le_of_ble_eq_true rfl) dL_law_1186 (fun y σ2 hm => ?_)
  refine sti_6 (pc := 1189) C dL_law_1189 ?_
  refine o_aload_n (pc := 1191) C dL_law_1191 rfl ?_
  refine cl_L_91 (pc := 1192) C c_X6_thrown (by omega) (by omega) (Nat.le_of_ble_eq_true rfl) dL_law_1192 (fun z3 σ3 hq3 => ?_)
  obtain ⟨rfl, hq3⟩ := hq3
  rw [hq3]; clear hq3
  obtain ⟨o1, o2, o3, o4, o5⟩ := R5_slits h h1 hq hm
  rw [o1]
  refine o_iload (pc := 1195) C dL_law_1195 rfl ?_
  refine o_icmp_same (pc := 1197) C (tgt := 1202) dL_law_1197 (by decide) ?_
  refine o_iload (pc := 1202) C dL_law_1202 rfl ?_
  refine o_if_ne (pc := 1204) C (tgt := 1219) dL_law_1204 (by decide) (by omega) (fun hk1 => ?_) (fun hk1 => ?_)
  · refine o_goto (pc := 1219) C (tgt := 1563) dL_law_1219 (by decide) ?_
    exact kk _ _ _ _ o3 (by omega)
  · have o6 := o2 hk1
    refine o_aload_n (pc := 1207) C dL_law_1207 rfl ?_
    refine o_iconst (pc := 1208) C dL_law_1208 ?_
    refine o_lald (pc := 1209) C dL_law_1209 ?_
    rw [o6]
    refine o_iload (pc := 1210) C dL_law_1210 rfl ?_
    refine o_i2l (pc := 1212) C dL_law_1212 ?_
    refine o_lcmp_same (pc := 1213) C dL_law_1213 ?_
    refine o_if_eq (pc := 1214) C (tgt := 1219) dL_law_1214 (by decide) (by decide) (fun _ => ?_) (fun q => absurd rfl q)
    refine o_goto (pc := 1219) C (tgt := 1563) dL_law_1219 (by decide) ?_
    exact kk _ _ _ _ o3 (by omega)
set_option maxRecDepth 100000 in
set_option maxHeartbeats 1000000 in
theorem law_22 {l : Launch} {g : oG} {mc : Nat} {x : oCtx} {σ : oMem} {k b L i : Nat} {xs : Nat → Int32} {v5 v6 : Option Value} (hfl : l.stackTraces = false) (C : oK l g RL cL_law 30 mc x) (S : oScr b L xs x) (hN : oNCx x) (hL : L ≤ 2560) (hi : i + 5 ≤ L) (h : Rel σ σ) (hk : k + 8 ≤ mc) (kk : ∀ (σ2 : oMem) (v5 v6 : Option Value) (k2 : Nat), Rel σ2 σ2 → k2 ≤ k + 8 → oW l g x σ2 1563 [some (.ref b), some (.ref (g.2.1 0 0)), some (.ref (g.2.1 24 0)), some (.ref (g.2.1 47 0)), some (oi (i : Int)), v5, v6] [] k2) : oW l g x σ 1222 [some (.ref b), some (.ref (g.2.1 0 0)), some (.ref (g.2.1 24 0)), some (.ref (g.2.1 47 0)), some (oi (i : Int)), v5, v6] [] k := by
  refine o_aload_n (pc := 1222) C dL_law_1222 rfl ?_
  refine o_aload_n (pc := 1223) C dL_law_1223 rfl ?_
  refine o_iload (pc := 1224) C dL_law_1224 rfl ?_
  refine o_iconst (pc := 1226) C dL_law_1226 ?_
  refine o_iadd (pc := 1227) C dL_law_1227 ?_
  refine o_sld (pc := 1228) (j := i + 1) S C (by omega) (by omega) hL dL_law_1228 ?_
  refine o_aload_n (pc := 1229) C dL_law_1229 rfl ?_
  refine o_iload (pc := 1230) C dL_law_1230 rfl ?_
  refine o_iconst (pc := 1232) C dL_law_1232 ?_
  refine o_iadd (pc := 1233) C dL_law_1233 ?_
  refine o_sld (pc := 1234) (j := i + 2) S C (by omega) (by omega) hL dL_law_1234 ?_
  refine o_aload_n (pc := 1235) C dL_law_1235 rfl ?_
  refine o_callSXh (pc := 1236) (n := 4) (As := [.ref (g.2.1 0 0), oi (xs (i + 1)).toInt, oi (xs (i + 2)).toInt, .ref (g.2.1 47 0)]) (rest := []) hN C (c_L_slitWeight hfl h.1 (InR_x _) (InR_x _)) kw_26_17 kw_26_18 kw_6_0 kw_26_19 (by decide +kernel) (by decide) (by omega) (by omega) rfl (Nat.le_of_ble_eq_true rfl) dL_law_1236 (fun k1 σ1 hq => ?_)
  have h1 := KR_slitWeight h hq
  refine sti_5 (pc := 1239) C dL_law_1239 ?_
  refine o_aload_n (pc := 1241) C dL_law_1241 rfl ?_
  refine o_aload_n (pc := 1242) C dL_law_1242 rfl ?_
  refine o_iload (pc := 1243) C dL_law_1243 rfl ?_
  refine o_iconst (pc := 1245) C dL_law_1245 ?_
  refine o_iadd (pc := 1246) C dL_law_1246 ?_
  refine o_sld (pc := 1247) (j := i + 1) S C (by omega) (by omega) hL dL_law_1247 ?_
  refine o_aload_n (pc := 1248) C dL_law_1248 rfl ?_
  refine o_iload (pc := 1249) C dL_law_1249 rfl ?_
  refine o_iconst (pc := 1251) C dL_law_1251 ?_
  refine o_iadd (pc := 1252) C dL_law_1252 ?_
  refine o_sld (pc := 1253) (j := i + 2) S C (by omega) (by omega) hL dL_law_1253 ?_
  refine cl_L_170 (pc := 1254) C (cm_X6_slitWeight h1.mi (InR_x _) (InR_x _)) (by omega) (by omega) (Nat.le_of_ble_eq_true rfl) dL_law_1254 (fun y σ2 hm => ?_)
  refine sti_6 (pc := 1257) C dL_law_1257 ?_
  refine o_aload_n (pc := 1259) C dL_law_1259 rfl ?_
  refine cl_L_91 (pc := 1260) C c_X6_thrown (by omega) (by omega) (Nat.le_of_ble_eq_true rfl) dL_law_1260 (fun z3 σ3 hq3 => ?_)
  obtain ⟨rfl, hq3⟩ := hq3
  rw [hq3]; clear hq3
  obtain ⟨o1, o2, o3, o4, o5⟩ := R5_slitWeight h h1 hq hm
  rw [o1]
  refine o_iload (pc := 1263) C dL_law_1263 rfl ?_
  refine o_icmp_same (pc := 1265) C (tgt := 1270) dL_law_1265 (by decide) ?_
  refine o_iload (pc := 1270) C dL_law_1270 rfl ?_
  refine o_if_ne (pc := 1272) C (tgt := 1287) dL_law_1272 (by decide) (by omega) (fun hk1 => ?_) (fun hk1 => ?_)
  · refine o_goto (pc := 1287) C (tgt := 1563) dL_law_1287 (by decide) ?_
    exact kk _ _ _ _ o3 (by omega)
  · have o6 := o2 hk1
    refine o_aload_n (pc := 1275) C dL_law_1275 rfl ?_
    refine o_iconst (pc := 1276) C dL_law_1276 ?_
    refine o_lald (pc := 1277) C dL_law_1277 ?_
    rw [o6]
    refine o_iload (pc := 1278) C dL_law_1278 rfl ?_
    refine o_i2l (pc := 1280) C dL_law_1280 ?_
    refine o_lcmp_same (pc := 1281) C dL_law_1281 ?_
    refine o_if_eq (pc := 1282) C (tgt := 1287) dL_law_1282 (by decide) (by decide) (fun _ => ?_) (fun q => absurd rfl q)
    refine o_goto (pc := 1287) C (tgt := 1563) dL_law_1287 (by decide) ?_
    exact kk _ _ _ _ o3 (by omega)
set_option maxRecDepth 100000 in
set_option maxHeartbeats 1000000 in
theorem law_23 {l : Launch} {g : oG} {mc : Nat} {x : oCtx} {σ : oMem} {k b L i : Nat} {xs : Nat → Int32} {v5 v6 : Option Value} (hfl : l.stackTraces = false) (C : oK l g RL cL_law 30 mc x) (S : oScr b L xs x) (hN : oNCx x) (hL : L ≤ 2560) (hi : i + 5 ≤ L) (h : Rel σ σ) (hk : k + 8 ≤ mc) (kk : ∀ (σ2 : oMem) (v5 v6 : Option Value) (k2 : Nat), Rel σ2 σ2 → k2 ≤ k + 8 → oW l g x σ2 1563 [some (.ref b), some (.ref (g.2.1 0 0)), some (.ref (g.2.1 24 0)), some (.ref (g.2.1 47 0)), some (oi (i : Int)), v5, v6] [] k2) : oW l g x σ 1290 [some (.ref b), some (.ref (g.2.1 0 0)), some (.ref (g.2.1 24 0)), some (.ref (g.2.1 47 0)), some (oi (i : Int)), v5, v6] [] k := by
  refine o_aload_n (pc := 1290) C dL_law_1290 rfl ?_
  refine o_aload_n (pc := 1291) C dL_law_1291 rfl ?_
  refine o_iload (pc := 1292) C dL_law_1292 rfl ?_
  refine o_iconst (pc := 1294) C dL_law_1294 ?_
  refine o_iadd (pc := 1295) C dL_law_1295 ?_
  refine o_sld (pc := 1296) (j := i + 1) S C (by omega) (by omega) hL dL_law_1296 ?_
  refine o_aload_n (pc := 1297) C dL_law_1297 rfl ?_
  refine o_iload (pc := 1298) C dL_law_1298 rfl ?_
  refine o_iconst (pc := 1300) C dL_law_1300 ?_
  refine o_iadd (pc := 1301) C dL_law_1301 ?_
  refine o_sld (pc := 1302) (j := i + 2) S C (by omega) (by omega) hL dL_law_1302 ?_
  refine o_aload_n (pc := 1303) C dL_law_1303 rfl ?_
  refine o_callSXh (pc := 1304) (n := 4) (As := [.ref (g.2.1 0 0), oi (xs (i + 1)).toInt, oi (xs (i + 2)).toInt, .ref (g.2.1 47 0)]) (rest := []) hN C (c_L_slitOrder hfl h.1 (InR_x _) (InR_x _)) kw_27_15 kw_27_16 kw_6_0 kw_27_17 (by decide +kernel) (by decide) (by omega) (by omega) rfl (Nat.le_of_ble_eq_true rfl) dL_law_1304 (fun k1 σ1 hq => ?_)
  have h1 := KR_slitOrder h hq
  refine sti_5 (pc := 1307) C dL_law_1307 ?_
  refine o_aload_n (pc := 1309) C dL_law_1309 rfl ?_
  refine o_aload_n (pc := 1310) C dL_law_1310 rfl ?_
  refine o_iload (pc := 1311) C dL_law_1311 rfl ?_
  refine o_iconst (pc := 1313) C dL_law_1313 ?_
  refine o_iadd (pc := 1314) C dL_law_1314 ?_
  refine o_sld (pc := 1315) (j := i + 1) S C (by omega) (by omega) hL dL_law_1315 ?_
  refine o_aload_n (pc := 1316) C dL_law_1316 rfl ?_
  refine o_iload (pc := 1317) C dL_law_1317 rfl ?_
  refine o_iconst (pc := 1319) C dL_law_1319 ?_
  refine o_iadd (pc := 1320) C dL_law_1320 ?_
  refine o_sld (pc := 1321) (j := i + 2) S C (by omega) (by omega) hL dL_law_1321 ?_
  refine cl_L_173 (pc := 1322) C (cm_X6_slitOrder h1.mi (InR_x _) (InR_x _)) (by omega) (by omega) (Nat.le_of_ble_eq_true rfl) dL_law_1322 (fun y σ2 hm => ?_)
  refine sti_6 (pc := 1325) C dL_law_1325 ?_
  refine o_aload_n (pc := 1327) C dL_law_1327 rfl ?_
  refine cl_L_91 (pc := 1328) C c_X6_thrown (by omega) (by omega) (Nat.le_of_ble_eq_true rfl) dL_law_1328 (fun z3 σ3 hq3 => ?_)
  obtain ⟨rfl, hq3⟩ := hq3
  rw [hq3]; clear hq3
  obtain ⟨o1, o2, o3, o4, o5⟩ := R5_slitOrder h h1 hq hm
  rw [o1]
  refine o_iload (pc := 1331) C dL_law_1331 rfl ?_
  refine o_icmp_same (pc := 1333) C (tgt := 1338) dL_law_1333 (by decide) ?_
  refine o_iload (pc := 1338) C dL_law_1338 rfl ?_
  refine o_if_ne (pc := 1340) C (tgt := 1355) dL_law_1340 (by decide) (by omega) (fun hk1 => ?_) (fun hk1 => ?_)
  · refine o_goto (pc := 1355) C (tgt := 1563) dL_law_1355 (by decide) ?_
    exact kk _ _ _ _ o3 (by omega)
  · have o6 := o2 hk1
    refine o_aload_n (pc := 1343) C dL_law_1343 rfl ?_
    refine o_iconst (pc := 1344) C dL_law_1344 ?_
    refine o_lald (pc := 1345) C dL_law_1345 ?_
    rw [o6]
    refine o_iload (pc := 1346) C dL_law_1346 rfl ?_
    refine o_i2l (pc := 1348) C dL_law_1348 ?_
    refine o_lcmp_same (pc := 1349) C dL_law_1349 ?_
    refine o_if_eq (pc := 1350) C (tgt := 1355) dL_law_1350 (by decide) (by decide) (fun _ => ?_) (fun q => absurd rfl q)
    refine o_goto (pc := 1355) C (tgt := 1563) dL_law_1355 (by decide) ?_
    exact kk _ _ _ _ o3 (by omega)
set_option maxRecDepth 100000 in
set_option maxHeartbeats 1000000 in
theorem law_24 {l : Launch} {g : oG} {mc : Nat} {x : oCtx} {σ : oMem} {k b L i : Nat} {xs : Nat → Int32} {v5 v6 : Option Value} (hfl : l.stackTraces = false) (C : oK l g RL cL_law 30 mc x) (S : oScr b L xs x) (hN : oNCx x) (hL : L ≤ 2560) (hi : i + 5 ≤ L) (h : Rel σ σ) (hk : k + 8 ≤ mc) (kk : ∀ (σ2 : oMem) (v5 v6 : Option Value) (k2 : Nat), Rel σ2 σ2 → k2 ≤ k + 8 → oW l g x σ2 1563 [some (.ref b), some (.ref (g.2.1 0 0)), some (.ref (g.2.1 24 0)), some (.ref (g.2.1 47 0)), some (oi (i : Int)), v5, v6] [] k2) : oW l g x σ 1358 [some (.ref b), some (.ref (g.2.1 0 0)), some (.ref (g.2.1 24 0)), some (.ref (g.2.1 47 0)), some (oi (i : Int)), v5, v6] [] k := by
  refine o_aload_n (pc := 1358) C dL_law_1358 rfl ?_
  refine o_aload_n (pc := 1359) C dL_law_1359 rfl ?_
  refine o_iload (pc := 1360) C dL_law_1360 rfl ?_
  refine o_iconst (pc := 1362) C dL_law_1362 ?_
  refine o_iadd (pc := 1363) C dL_law_1363 ?_
  refine o_sld (pc := 1364) (j := i + 1) S C (by omega) (by omega) hL dL_law_1364 ?_
  refine o_aload_n (pc := 1365) C dL_law_1365 rfl ?_
  refine o_iload (pc := 1366) C dL_law_1366 rfl ?_
  refine o_iconst (pc := 1368) C dL_law_1368 ?_
  refine o_iadd (pc := 1369) C dL_law_1369 ?_
  refine o_sld (pc := 1370) (j := i + 2) S C (by omega) (by omega) hL dL_law_1370 ?_
  refine o_aload_n (pc := 1371) C dL_law_1371 rfl ?_
  refine o_callSXh (pc := 1372) (n := 4) (As := [.ref (g.2.1 0 0), oi (xs (i + 1)).toInt, oi (xs (i + 2)).toInt, .ref (g.2.1 47 0)]) (rest := []) hN C (c_L_lost hfl h.1 (InR_x _) (InR_x _)) kw_28_2 kw_28_3 kw_6_0 kw_28_4 (by decide +kernel) (by decide) (by omega) (by omega) rfl (Nat.le_of_ble_eq_true rfl) dL_law_1372 (fun k1 σ1 hq => ?_)
  have h1 := KR_lost h hq
  refine sti_5 (pc := 1375) C dL_law_1375 ?_
  refine o_aload_n (pc := 1377) C dL_law_1377 rfl ?_
  refine o_aload_n (pc := 1378) C dL_law_1378 rfl ?_
  refine o_iload (pc := 1379) C dL_law_1379 rfl ?_
  refine o_iconst (pc := 1381) C dL_law_1381 ?_
  refine o_iadd (pc := 1382) C dL_law_1382 ?_
  refine o_sld (pc := 1383) (j := i + 1) S C (by omega) (by omega) hL dL_law_1383 ?_
  refine o_aload_n (pc := 1384) C dL_law_1384 rfl ?_
  refine o_iload (pc := 1385) C dL_law_1385 rfl ?_
  refine o_iconst (pc := 1387) C dL_law_1387 ?_
  refine o_iadd (pc := 1388) C dL_law_1388 ?_
  refine o_sld (pc := 1389) (j := i + 2) S C (by omega) (by omega) hL dL_law_1389 ?_
  refine cl_L_176 (pc := 1390) C (cm_X6_lost h1.mi (InR_x _) (InR_x _)) (by omega) (by omega) (Nat.le_of_ble_eq_true rfl) dL_law_1390 (fun y σ2 hm => ?_)
  refine sti_6 (pc := 1393) C dL_law_1393 ?_
  refine o_aload_n (pc := 1395) C dL_law_1395 rfl ?_
  refine cl_L_91 (pc := 1396) C c_X6_thrown (by omega) (by omega) (Nat.le_of_ble_eq_true rfl) dL_law_1396 (fun z3 σ3 hq3 => ?_)
  obtain ⟨rfl, hq3⟩ := hq3
  rw [hq3]; clear hq3
  obtain ⟨o1, o2, o3, o4, o5⟩ := R5_lost h h1 hq hm
  rw [o1]
  refine o_iload (pc := 1399) C dL_law_1399 rfl ?_
  refine o_icmp_same (pc := 1401) C (tgt := 1406) dL_law_1401 (by decide) ?_
  refine o_iload (pc := 1406) C dL_law_1406 rfl ?_
  refine o_if_ne (pc := 1408) C (tgt := 1423) dL_law_1408 (by decide) (by omega) (fun hk1 => ?_) (fun hk1 => ?_)
  · refine o_goto (pc := 1423) C (tgt := 1563) dL_law_1423 (by decide) ?_
    exact kk _ _ _ _ o3 (by omega)
  · have o6 := o2 hk1
    refine o_aload_n (pc := 1411) C dL_law_1411 rfl ?_
    refine o_iconst (pc := 1412) C dL_law_1412 ?_
    refine o_lald (pc := 1413) C dL_law_1413 ?_
    rw [o6]
    refine o_iload (pc := 1414) C dL_law_1414 rfl ?_
    refine o_i2l (pc := 1416) C dL_law_1416 ?_
    refine o_lcmp_same (pc := 1417) C dL_law_1417 ?_
    refine o_if_eq (pc := 1418) C (tgt := 1423) dL_law_1418 (by decide) (by decide) (fun _ => ?_) (fun q => absurd rfl q)
    refine o_goto (pc := 1423) C (tgt := 1563) dL_law_1423 (by decide) ?_
    exact kk _ _ _ _ o3 (by omega)
set_option maxRecDepth 100000 in
set_option maxHeartbeats 1000000 in
theorem law_25 {l : Launch} {g : oG} {mc : Nat} {x : oCtx} {σ : oMem} {k b L i : Nat} {xs : Nat → Int32} {v5 v6 : Option Value} (hfl : l.stackTraces = false) (C : oK l g RL cL_law 30 mc x) (S : oScr b L xs x) (hN : oNCx x) (hL : L ≤ 2560) (hi : i + 5 ≤ L) (h : Rel σ σ) (hk : k + 8 ≤ mc) (kk : ∀ (σ2 : oMem) (v5 v6 : Option Value) (k2 : Nat), Rel σ2 σ2 → k2 ≤ k + 8 → oW l g x σ2 1563 [some (.ref b), some (.ref (g.2.1 0 0)), some (.ref (g.2.1 24 0)), some (.ref (g.2.1 47 0)), some (oi (i : Int)), v5, v6] [] k2) : oW l g x σ 1426 [some (.ref b), some (.ref (g.2.1 0 0)), some (.ref (g.2.1 24 0)), some (.ref (g.2.1 47 0)), some (oi (i : Int)), v5, v6] [] k := by
  refine o_aload_n (pc := 1426) C dL_law_1426 rfl ?_
  refine o_aload_n (pc := 1427) C dL_law_1427 rfl ?_
  refine o_iload (pc := 1428) C dL_law_1428 rfl ?_
  refine o_iconst (pc := 1430) C dL_law_1430 ?_
  refine o_iadd (pc := 1431) C dL_law_1431 ?_
  refine o_sld (pc := 1432) (j := i + 1) S C (by omega) (by omega) hL dL_law_1432 ?_
  refine o_aload_n (pc := 1433) C dL_law_1433 rfl ?_
  refine o_callSXh (pc := 1434) (n := 3) (As := [.ref (g.2.1 0 0), oi (xs (i + 1)).toInt, .ref (g.2.1 47 0)]) (rest := []) hN C (c_L_delivered hfl h.1 (InR_x _)) kw_28_13 kw_28_14 kw_6_0 kw_28_15 (by decide +kernel) (by decide) (by omega) (by omega) rfl (Nat.le_of_ble_eq_true rfl) dL_law_1434 (fun k1 σ1 hq => ?_)
  have h1 := KR_delivered h hq
  refine sti_5 (pc := 1437) C dL_law_1437 ?_
  refine o_aload_n (pc := 1439) C dL_law_1439 rfl ?_
  refine o_aload_n (pc := 1440) C dL_law_1440 rfl ?_
  refine o_iload (pc := 1441) C dL_law_1441 rfl ?_
  refine o_iconst (pc := 1443) C dL_law_1443 ?_
  refine o_iadd (pc := 1444) C dL_law_1444 ?_
  refine o_sld (pc := 1445) (j := i + 1) S C (by omega) (by omega) hL dL_law_1445 ?_
  refine cl_L_179 (pc := 1446) C (cm_X6_delivered h1.mi (InR_x _)) (by omega) (by omega) (Nat.le_of_ble_eq_true rfl) dL_law_1446 (fun y σ2 hm => ?_)
  refine sti_6 (pc := 1449) C dL_law_1449 ?_
  refine o_aload_n (pc := 1451) C dL_law_1451 rfl ?_
  refine cl_L_91 (pc := 1452) C c_X6_thrown (by omega) (by omega) (Nat.le_of_ble_eq_true rfl) dL_law_1452 (fun z3 σ3 hq3 => ?_)
  obtain ⟨rfl, hq3⟩ := hq3
  rw [hq3]; clear hq3
  obtain ⟨o1, o2, o3, o4, o5⟩ := R5_delivered h h1 hq hm
  rw [o1]
  refine o_iload (pc := 1455) C dL_law_1455 rfl ?_
  refine o_icmp_same (pc := 1457) C (tgt := 1462) dL_law_1457 (by decide) ?_
  refine o_iload (pc := 1462) C dL_law_1462 rfl ?_
  refine o_if_ne (pc := 1464) C (tgt := 1479) dL_law_1464 (by decide) (by omega) (fun hk1 => ?_) (fun hk1 => ?_)
  · refine o_goto (pc := 1479) C (tgt := 1563) dL_law_1479 (by decide) ?_
    exact kk _ _ _ _ o3 (by omega)
  · have o6 := o2 hk1
    refine o_aload_n (pc := 1467) C dL_law_1467 rfl ?_
    refine o_iconst (pc := 1468) C dL_law_1468 ?_
    refine o_lald (pc := 1469) C dL_law_1469 ?_
    rw [o6]
    refine o_iload (pc := 1470) C dL_law_1470 rfl ?_
    refine o_i2l (pc := 1472) C dL_law_1472 ?_
    refine o_lcmp_same (pc := 1473) C dL_law_1473 ?_
    refine o_if_eq (pc := 1474) C (tgt := 1479) dL_law_1474 (by decide) (by decide) (fun _ => ?_) (fun q => absurd rfl q)
    refine o_goto (pc := 1479) C (tgt := 1563) dL_law_1479 (by decide) ?_
    exact kk _ _ _ _ o3 (by omega)
set_option maxRecDepth 100000 in
set_option maxHeartbeats 1000000 in
theorem law_26 {l : Launch} {g : oG} {mc : Nat} {x : oCtx} {σ : oMem} {k b L i : Nat} {xs : Nat → Int32} {v5 v6 : Option Value} (hfl : l.stackTraces = false) (C : oK l g RL cL_law 30 mc x) (S : oScr b L xs x) (hN : oNCx x) (hL : L ≤ 2560) (hi : i + 5 ≤ L) (h : Rel σ σ) (hk : k + 8 ≤ mc) (kk : ∀ (σ2 : oMem) (v5 v6 : Option Value) (k2 : Nat), Rel σ2 σ2 → k2 ≤ k + 8 → oW l g x σ2 1563 [some (.ref b), some (.ref (g.2.1 0 0)), some (.ref (g.2.1 24 0)), some (.ref (g.2.1 47 0)), some (oi (i : Int)), v5, v6] [] k2) : oW l g x σ 1482 [some (.ref b), some (.ref (g.2.1 0 0)), some (.ref (g.2.1 24 0)), some (.ref (g.2.1 47 0)), some (oi (i : Int)), v5, v6] [] k := by
  refine o_aload_n (pc := 1482) C dL_law_1482 rfl ?_
  refine o_aload_n (pc := 1483) C dL_law_1483 rfl ?_
  refine o_iload (pc := 1484) C dL_law_1484 rfl ?_
  refine o_iconst (pc := 1486) C dL_law_1486 ?_
  refine o_iadd (pc := 1487) C dL_law_1487 ?_
  refine o_sld (pc := 1488) (j := i + 1) S C (by omega) (by omega) hL dL_law_1488 ?_
  refine o_aload_n (pc := 1489) C dL_law_1489 rfl ?_
  refine o_callSXh (pc := 1490) (n := 3) (As := [.ref (g.2.1 0 0), oi (xs (i + 1)).toInt, .ref (g.2.1 47 0)]) (rest := []) hN C (c_L_heatOf hfl h.1 (InR_x _)) kw_29_8 kw_29_9 kw_6_0 kw_29_10 (by decide +kernel) (by decide) (by omega) (by omega) rfl (Nat.le_of_ble_eq_true rfl) dL_law_1490 (fun k1 σ1 hq => ?_)
  have h1 := KR_heatOf h hq
  refine sti_5 (pc := 1493) C dL_law_1493 ?_
  refine o_aload_n (pc := 1495) C dL_law_1495 rfl ?_
  refine o_aload_n (pc := 1496) C dL_law_1496 rfl ?_
  refine o_iload (pc := 1497) C dL_law_1497 rfl ?_
  refine o_iconst (pc := 1499) C dL_law_1499 ?_
  refine o_iadd (pc := 1500) C dL_law_1500 ?_
  refine o_sld (pc := 1501) (j := i + 1) S C (by omega) (by omega) hL dL_law_1501 ?_
  refine cl_L_182 (pc := 1502) C (cm_X6_heatOf h1.mi (InR_x _)) (by omega) (by omega) (Nat.le_of_ble_eq_true rfl) dL_law_1502 (fun y σ2 hm => ?_)
  refine sti_6 (pc := 1505) C dL_law_1505 ?_
  refine o_aload_n (pc := 1507) C dL_law_1507 rfl ?_
  refine cl_L_91 (pc := 1508) C c_X6_thrown (by omega) (by omega) (Nat.le_of_ble_eq_true rfl) dL_law_1508 (fun z3 σ3 hq3 => ?_)
  obtain ⟨rfl, hq3⟩ := hq3
  rw [hq3]; clear hq3
  obtain ⟨o1, o2, o3, o4, o5⟩ := R5_heatOf h h1 hq hm
  rw [o1]
  refine o_iload (pc := 1511) C dL_law_1511 rfl ?_
  refine o_icmp_same (pc := 1513) C (tgt := 1518) dL_law_1513 (by decide) ?_
  refine o_iload (pc := 1518) C dL_law_1518 rfl ?_
  refine o_if_ne (pc := 1520) C (tgt := 1535) dL_law_1520 (by decide) (by omega) (fun hk1 => ?_) (fun hk1 => ?_)
  · refine o_goto (pc := 1535) C (tgt := 1563) dL_law_1535 (by decide) ?_
    exact kk _ _ _ _ o3 (by omega)
  · have o6 := o2 hk1
    refine o_aload_n (pc := 1523) C dL_law_1523 rfl ?_
    refine o_iconst (pc := 1524) C dL_law_1524 ?_
    refine o_lald (pc := 1525) C dL_law_1525 ?_
    rw [o6]
    refine o_iload (pc := 1526) C dL_law_1526 rfl ?_
    refine o_i2l (pc := 1528) C dL_law_1528 ?_
    refine o_lcmp_same (pc := 1529) C dL_law_1529 ?_
    refine o_if_eq (pc := 1530) C (tgt := 1535) dL_law_1530 (by decide) (by decide) (fun _ => ?_) (fun q => absurd rfl q)
    refine o_goto (pc := 1535) C (tgt := 1563) dL_law_1535 (by decide) ?_
    exact kk _ _ _ _ o3 (by omega)
set_option maxRecDepth 100000 in
set_option maxHeartbeats 1000000 in
theorem law_27 {l : Launch} {g : oG} {mc : Nat} {x : oCtx} {σ : oMem} {k b L i : Nat} {xs : Nat → Int32} {v5 v6 : Option Value} (hfl : l.stackTraces = false) (C : oK l g RL cL_law 30 mc x) (S : oScr b L xs x) (hN : oNCx x) (hL : L ≤ 2560) (hi : i + 5 ≤ L) (h : Rel σ σ) (hk : k + 8 ≤ mc) (kk : ∀ (σ2 : oMem) (v5 v6 : Option Value) (k2 : Nat), Rel σ2 σ2 → k2 ≤ k + 8 → oW l g x σ2 1563 [some (.ref b), some (.ref (g.2.1 0 0)), some (.ref (g.2.1 24 0)), some (.ref (g.2.1 47 0)), some (oi (i : Int)), v5, v6] [] k2) : oW l g x σ 1538 [some (.ref b), some (.ref (g.2.1 0 0)), some (.ref (g.2.1 24 0)), some (.ref (g.2.1 47 0)), some (oi (i : Int)), v5, v6] [] k := by
  refine o_aload_n (pc := 1538) C dL_law_1538 rfl ?_
  refine o_aload_n (pc := 1539) C dL_law_1539 rfl ?_
  refine o_iload (pc := 1540) C dL_law_1540 rfl ?_
  refine o_iconst (pc := 1542) C dL_law_1542 ?_
  refine o_iadd (pc := 1543) C dL_law_1543 ?_
  refine o_sld (pc := 1544) (j := i + 1) S C (by omega) (by omega) hL dL_law_1544 ?_
  refine cl_L_183 (pc := 1545) C (c_X5_stock h.1 (InR_x _)) (by omega) (by omega) (Nat.le_of_ble_eq_true rfl) dL_law_1545 (fun k1 σ1 hq => ?_)
  have hq : P5_stock σ (xs (i + 1)).toInt k1 σ1 := hq
  have h1 := KR_stock h hq
  refine o_aload_n (pc := 1548) C dL_law_1548 rfl ?_
  refine o_aload_n (pc := 1549) C dL_law_1549 rfl ?_
  refine o_iload (pc := 1550) C dL_law_1550 rfl ?_
  refine o_iconst (pc := 1552) C dL_law_1552 ?_
  refine o_iadd (pc := 1553) C dL_law_1553 ?_
  refine o_sld (pc := 1554) (j := i + 1) S C (by omega) (by omega) hL dL_law_1554 ?_
  refine cl_L_186 (pc := 1555) C (cm_X6_stock h1.mi (InR_x _)) (by omega) (by omega) (Nat.le_of_ble_eq_true rfl) dL_law_1555 (fun y σ2 hm => ?_)
  obtain ⟨o1, o3⟩ := R5_stock h h1 hq hm
  rw [o1]
  refine o_icmp_same (pc := 1558) C (tgt := 1563) dL_law_1558 (by decide) ?_
  exact kk _ _ _ _ o3 (by omega)
