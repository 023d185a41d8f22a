/-! THE LAW: its cases -/
theorem ml_L_146 : Cond.methodLink RL 146 yL_append ∈ aw := (tb_in 1349 (by decide +kernel) (by decide +kernel))
theorem ml_L_155 : Cond.methodLink RL 155 yL_truncate ∈ aw := (tb_in 1380 (by decide +kernel) (by decide +kernel))
theorem ml_L_183 : Cond.methodLink RL 183 yL_weight ∈ aw := (tb_in 1391 (by decide +kernel) (by decide +kernel))
theorem ml_L_186 : Cond.methodLink RL 186 yL_purse ∈ aw := (tb_in 1417 (by decide +kernel) (by decide +kernel))
theorem ml_L_189 : Cond.methodLink RL 189 yL_sharpness ∈ aw := (tb_in 1424 (by decide +kernel) (by decide +kernel))
theorem ml_L_192 : Cond.methodLink RL 192 yL_speechesOf ∈ aw := (tb_in 1431 (by decide +kernel) (by decide +kernel))
theorem ml_L_195 : Cond.methodLink RL 195 yL_leaning ∈ aw := (tb_in 1438 (by decide +kernel) (by decide +kernel))
theorem ml_L_199 : Cond.methodLink RL 199 yL_chairOf ∈ aw := (tb_in 1452 (by decide +kernel) (by decide +kernel))
theorem ml_L_202 : Cond.methodLink RL 202 yL_placeInList ∈ aw := (tb_in 1460 (by decide +kernel) (by decide +kernel))
theorem ml_L_209 : Cond.methodLink RL 209 yL_proposer ∈ aw := (tb_in 1468 (by decide +kernel) (by decide +kernel))
theorem ml_L_212 : Cond.methodLink RL 212 yL_motionState ∈ aw := (tb_in 1475 (by decide +kernel) (by decide +kernel))
theorem ml_L_215 : Cond.methodLink RL 215 yL_lather ∈ aw := (tb_in 1482 (by decide +kernel) (by decide +kernel))
theorem ml_L_218 : Cond.methodLink RL 218 yL_weightFor ∈ aw := (tb_in 1489 (by decide +kernel) (by decide +kernel))
theorem ml_L_221 : Cond.methodLink RL 221 yL_weightAgainst ∈ aw := (tb_in 1497 (by decide +kernel) (by decide +kernel))
theorem ml_L_224 : Cond.methodLink RL 224 yL_voterCount ∈ aw := (tb_in 1504 (by decide +kernel) (by decide +kernel))
theorem ml_L_227 : Cond.methodLink RL 227 yL_obstacle ∈ aw := (tb_in 1512 (by decide +kernel) (by decide +kernel))
theorem ml_L_230 : Cond.methodLink RL 230 yL_wouldPass ∈ aw := (tb_in 1520 (by decide +kernel) (by decide +kernel))
theorem ml_L_233 : Cond.methodLink RL 233 yL_decisiveVoter ∈ aw := (tb_in 1528 (by decide +kernel) (by decide +kernel))
theorem ml_L_256 : Cond.methodLink RL 256 yL_speaker ∈ aw := (tb_in 1539 (by decide +kernel) (by decide +kernel))
theorem ml_L_259 : Cond.methodLink RL 259 yL_speechMotion ∈ aw := (tb_in 1552 (by decide +kernel) (by decide +kernel))
theorem ml_L_262 : Cond.methodLink RL 262 yL_remainingTime ∈ aw := (tb_in 1576 (by decide +kernel) (by decide +kernel))
theorem ml_L_265 : Cond.methodLink RL 265 yL_isRebutted ∈ aw := (tb_in 1583 (by decide +kernel) (by decide +kernel))
theorem ml_L_268 : Cond.methodLink RL 268 yL_firstBy ∈ aw := (tb_in 1590 (by decide +kernel) (by decide +kernel))
theorem ml_L_283 : Cond.methodLink RL 283 yL_meanLeaning ∈ aw := (tb_in 1605 (by decide +kernel) (by decide +kernel))
theorem ml_L_287 : Cond.methodLink RL 287 yL_weightShare ∈ aw := (tb_in 1613 (by decide +kernel) (by decide +kernel))
theorem ml_L_294 : Cond.methodLink RL 294 yL_minutesUntilSpeech ∈ aw := (tb_in 1624 (by decide +kernel) (by decide +kernel))
theorem ml_L_297 : Cond.methodLink RL 297 yL_latherAfter ∈ aw := (tb_in 1633 (by decide +kernel) (by decide +kernel))
theorem ml_L_300 : Cond.methodLink RL 300 yL_minutesUntilVote ∈ aw := (tb_in 1641 (by decide +kernel) (by decide +kernel))
theorem ml_L_303 : Cond.methodLink RL 303 yL_propose ∈ aw := (tb_in 1648 (by decide +kernel) (by decide +kernel))
theorem ml_L_306 : Cond.methodLink RL 306 yL_request ∈ aw := (tb_in 1657 (by decide +kernel) (by decide +kernel))
theorem ml_L_310 : Cond.methodLink RL 310 yL_rebut ∈ aw := (tb_in 1666 (by decide +kernel) (by decide +kernel))
theorem ml_L_313 : Cond.methodLink RL 313 yL_advance ∈ aw := (tb_in 1675 (by decide +kernel) (by decide +kernel))
theorem ml_L_316 : Cond.methodLink RL 316 yL_vote ∈ aw := (tb_in 1684 (by decide +kernel) (by decide +kernel))
theorem ml_L_319 : Cond.methodLink RL 319 yL_withdraw ∈ aw := (tb_in 1693 (by decide +kernel) (by decide +kernel))
theorem ml_L_322 : Cond.methodLink RL 322 yL_sharpen ∈ aw := (tb_in 1702 (by decide +kernel) (by decide +kernel))
theorem ml_L_325 : Cond.methodLink RL 325 yL_setRanking ∈ aw := (tb_in 1711 (by decide +kernel) (by decide +kernel))
theorem ml_L_344 : Cond.methodLink RL 344 yL_undo ∈ aw := (tb_in 1718 (by decide +kernel) (by decide +kernel))
theorem ml_L_348 : Cond.methodLink RL 348 yL_save ∈ aw := (tb_in 1730 (by decide +kernel) (by decide +kernel))
theorem ml_L_351 : Cond.methodLink RL 351 yL_restore ∈ aw := (tb_in 1741 (by decide +kernel) (by decide +kernel))
section Cases
variable {L : Nat} {xs : Nat → Int32} {kc ks : Nat} {Q : Option Value → Mem → Prop} {X : String → Mem → Prop} {μ : Mem} {i : Nat}
set_option maxRecDepth 8000 in
set_option maxHeartbeats 4000000 in
theorem L_0 (h : INV μ) (hi : i + 6 ≤ L) (hL : L ≤ 3072) (K : ∀ μ', INV μ' → go 291 20 kc ks (mLaw L xs) Q X 2940 (lLaw i) [] μ') : go 291 20 (kc + 3) (ks + 246) (mLaw L xs) Q X 296 (lLaw i) [] μ := by
  show go 291 20 (kc + 3) (ks + 246) (mLaw L xs) Q X 296 [.ref 6000, .ref 0, .ref 276, .ref 289, .ref 290, .int (iI (i : Nat)), .null, .null, .null] [] μ
  refine go_aload_n (y := mLaw L xs) (pc := 296) dL_law_296 rfl rfl ?_
  refine go_aload_n (y := mLaw L xs) (pc := 297) dL_law_297 rfl rfl ?_
  refine go_iload (y := mLaw L xs) (pc := 298) dL_law_298 rfl ?_
  refine go_iconst (y := mLaw L xs) (pc := 300) dL_law_300 ?_
  refine go_iadd (y := mLaw L xs) (pc := 301) dL_law_301 ?_
  refine go_sld (pc := 302) (k := i + 1) dL_law_302 (by omega) (by omega) hL ?_
  refine go_aload_n (y := mLaw L xs) (pc := 303) dL_law_303 rfl rfl ?_
  refine go_iload (y := mLaw L xs) (pc := 304) dL_law_304 rfl ?_
  refine go_iconst (y := mLaw L xs) (pc := 306) dL_law_306 ?_
  refine go_iadd (y := mLaw L xs) (pc := 307) dL_law_307 ?_
  refine go_sld (pc := 308) (k := i + 2) dL_law_308 (by omega) (by omega) hL ?_
  refine go_aload_n (y := mLaw L xs) (pc := 309) dL_law_309 rfl rfl ?_
  refine go_iload (y := mLaw L xs) (pc := 310) dL_law_310 rfl ?_
  refine go_iconst (y := mLaw L xs) (pc := 312) dL_law_312 ?_
  refine go_iadd (y := mLaw L xs) (pc := 313) dL_law_313 ?_
  refine go_sld (pc := 314) (k := i + 3) dL_law_314 (by omega) (by omega) hL ?_
  refine go_aload_n (y := mLaw L xs) (pc := 315) dL_law_315 rfl rfl ?_
  refine go_iload (y := mLaw L xs) (pc := 316) dL_law_316 rfl ?_
  refine go_iconst (y := mLaw L xs) (pc := 318) dL_law_318 ?_
  refine go_iadd (y := mLaw L xs) (pc := 319) dL_law_319 ?_
  refine go_sld (pc := 320) (k := i + 4) dL_law_320 (by omega) (by omega) hL ?_
  refine go_aload_n (y := mLaw L xs) (pc := 321) dL_law_321 rfl rfl ?_
  refine go_iload (y := mLaw L xs) (pc := 322) dL_law_322 rfl ?_
  refine go_iconst (y := mLaw L xs) (pc := 324) dL_law_324 ?_
  refine go_iadd (y := mLaw L xs) (pc := 325) dL_law_325 ?_
  refine go_sld (pc := 326) (k := i + 5) dL_law_326 (by omega) (by omega) hL ?_
  refine go_aload_n (y := mLaw L xs) (pc := 327) dL_law_327 rfl rfl ?_
  refine go_callSH (y := mLaw L xs) (pc := 328) (y' := mL_append) (as := [.ref 0, .int (iI (xi xs (i + 1))), .int (iI (xi xs (i + 2))), .int (iI (xi xs (i + 3))), .int (iI (xi xs (i + 4))), .int (iI (xi xs (i + 5))), .ref 289]) (rest := []) (z' := 291) (d' := 17) (kc' := 3) (ks' := 246) (kc2 := kc) (ks2 := ks) dL_law_328 rfl ml_L_146 ok_L_append rfl (by decide) (by intro v hv; simp only [List.mem_cons, List.not_mem_nil, or_false] at hv; rcases hv with rfl | rfl | rfl | rfl | rfl | rfl | rfl <;> rfl) (by decide) (Nat.le_refl _) (by decide) (Nat.le_of_eq (Nat.add_comm _ _)) (Nat.le_of_eq (Nat.add_comm _ _)) rfl (mt_mono (T_append h ) (fun r μ1 hq => ?_) (fun E μ1 hx => hx.elim))
  obtain ⟨k, v, rfl, hk, hv, hm⟩ := hq
  refine go_istore (y := mLaw L xs) (pc := 331) dL_law_331 (by show 6 < 9; decide) ?_
  refine go_aload_n (y := mLaw L xs) (pc := 333) dL_law_333 rfl rfl ?_
  refine go_aload_n (y := mLaw L xs) (pc := 334) dL_law_334 rfl rfl ?_
  refine go_iload (y := mLaw L xs) (pc := 335) dL_law_335 rfl ?_
  refine go_iconst (y := mLaw L xs) (pc := 337) dL_law_337 ?_
  refine go_iadd (y := mLaw L xs) (pc := 338) dL_law_338 ?_
  refine go_sld (pc := 339) (k := i + 1) dL_law_339 (by omega) (by omega) hL ?_
  refine go_aload_n (y := mLaw L xs) (pc := 340) dL_law_340 rfl rfl ?_
  refine go_iload (y := mLaw L xs) (pc := 341) dL_law_341 rfl ?_
  refine go_iconst (y := mLaw L xs) (pc := 343) dL_law_343 ?_
  refine go_iadd (y := mLaw L xs) (pc := 344) dL_law_344 ?_
  refine go_sld (pc := 345) (k := i + 2) dL_law_345 (by omega) (by omega) hL ?_
  refine go_aload_n (y := mLaw L xs) (pc := 346) dL_law_346 rfl rfl ?_
  refine go_iload (y := mLaw L xs) (pc := 347) dL_law_347 rfl ?_
  refine go_iconst (y := mLaw L xs) (pc := 349) dL_law_349 ?_
  refine go_iadd (y := mLaw L xs) (pc := 350) dL_law_350 ?_
  refine go_sld (pc := 351) (k := i + 3) dL_law_351 (by omega) (by omega) hL ?_
  refine go_aload_n (y := mLaw L xs) (pc := 352) dL_law_352 rfl rfl ?_
  refine go_iload (y := mLaw L xs) (pc := 353) dL_law_353 rfl ?_
  refine go_iconst (y := mLaw L xs) (pc := 355) dL_law_355 ?_
  refine go_iadd (y := mLaw L xs) (pc := 356) dL_law_356 ?_
  refine go_sld (pc := 357) (k := i + 4) dL_law_357 (by omega) (by omega) hL ?_
  refine go_aload_n (y := mLaw L xs) (pc := 358) dL_law_358 rfl rfl ?_
  refine go_iload (y := mLaw L xs) (pc := 359) dL_law_359 rfl ?_
  refine go_iconst (y := mLaw L xs) (pc := 361) dL_law_361 ?_
  refine go_iadd (y := mLaw L xs) (pc := 362) dL_law_362 ?_
  refine go_sld (pc := 363) (k := i + 5) dL_law_363 (by omega) (by omega) hL ?_
  refine go_callV (y := mLaw L xs) (pc := 364) (y' := mX11_append) (as := [.int (iI (xi xs (i + 1))), .int (iI (xi xs (i + 2))), .int (iI (xi xs (i + 3))), .int (iI (xi xs (i + 4))), .int (iI (xi xs (i + 5)))]) (b := 276) (rest := []) (z' := 289) (d' := 16) (kc' := 0) (ks' := 0) (kc2 := kc) (ks2 := ks) dL_law_364 rfl ml_L_151 ok_X11_append (show shp 276 = _ from rfl) ⟨_, _, rfl⟩ (by decide) rfl (by decide) (by intro v hv; simp only [List.mem_cons, List.not_mem_nil, or_false] at hv; rcases hv with rfl | rfl | rfl | rfl | rfl <;> rfl) (by decide) (by decide) (by decide) (Nat.le_of_eq (Nat.zero_add _)) (Nat.le_of_eq (Nat.zero_add _)) rfl (mt_mono hm (fun r μ2 hq => ?_) (fun E μ2 hx => hx.elim))
  obtain ⟨b, rfl, e7, hI, e0⟩ := hq
  exact tlI (pc := 367) dL_law_367 dL_law_369 dL_law_370 dL_law_373 dL_law_375 dL_law_380 dL_law_382 dL_law_385 dL_law_386 dL_law_387 dL_law_388 dL_law_390 dL_law_391 dL_law_392 dL_law_397 (by decide) hk (fun g => (hv g).2.1) e7 hI e0 K
set_option maxRecDepth 8000 in
set_option maxHeartbeats 4000000 in
theorem L_1 (h : INV μ) (hi : i + 6 ≤ L) (hL : L ≤ 3072) (K : ∀ μ', INV μ' → go 291 20 kc ks (mLaw L xs) Q X 2940 (lLaw i) [] μ') : go 291 20 (kc + 3) (ks + 246) (mLaw L xs) Q X 400 (lLaw i) [] μ := by
  show go 291 20 (kc + 3) (ks + 246) (mLaw L xs) Q X 400 [.ref 6000, .ref 0, .ref 276, .ref 289, .ref 290, .int (iI (i : Nat)), .null, .null, .null] [] μ
  refine go_aload_n (y := mLaw L xs) (pc := 400) dL_law_400 rfl rfl ?_
  refine go_aload_n (y := mLaw L xs) (pc := 401) dL_law_401 rfl rfl ?_
  refine go_iload (y := mLaw L xs) (pc := 402) dL_law_402 rfl ?_
  refine go_iconst (y := mLaw L xs) (pc := 404) dL_law_404 ?_
  refine go_iadd (y := mLaw L xs) (pc := 405) dL_law_405 ?_
  refine go_sld (pc := 406) (k := i + 1) dL_law_406 (by omega) (by omega) hL ?_
  refine go_aload_n (y := mLaw L xs) (pc := 407) dL_law_407 rfl rfl ?_
  refine go_callSH (y := mLaw L xs) (pc := 408) (y' := mL_truncate) (as := [.ref 0, .int (iI (xi xs (i + 1))), .ref 289]) (rest := []) (z' := 291) (d' := 17) (kc' := 3) (ks' := 246) (kc2 := kc) (ks2 := ks) dL_law_408 rfl ml_L_155 ok_L_truncate rfl (by decide) (by intro v hv; simp only [List.mem_cons, List.not_mem_nil, or_false] at hv; rcases hv with rfl | rfl | rfl <;> rfl) (by decide) (Nat.le_refl _) (by decide) (Nat.le_of_eq (Nat.add_comm _ _)) (Nat.le_of_eq (Nat.add_comm _ _)) rfl (mt_mono (T_truncate h (rng_t _)) (fun r μ1 hq => ?_) (fun E μ1 hx => hx.elim))
  obtain ⟨k, v, rfl, hk, hv, hm⟩ := hq
  refine go_istore (y := mLaw L xs) (pc := 411) dL_law_411 (by show 6 < 9; decide) ?_
  refine go_aload_n (y := mLaw L xs) (pc := 413) dL_law_413 rfl rfl ?_
  refine go_aload_n (y := mLaw L xs) (pc := 414) dL_law_414 rfl rfl ?_
  refine go_iload (y := mLaw L xs) (pc := 415) dL_law_415 rfl ?_
  refine go_iconst (y := mLaw L xs) (pc := 417) dL_law_417 ?_
  refine go_iadd (y := mLaw L xs) (pc := 418) dL_law_418 ?_
  refine go_sld (pc := 419) (k := i + 1) dL_law_419 (by omega) (by omega) hL ?_
  refine go_callV (y := mLaw L xs) (pc := 420) (y' := mX11_truncate) (as := [.int (iI (xi xs (i + 1)))]) (b := 276) (rest := []) (z' := 289) (d' := 16) (kc' := 0) (ks' := 0) (kc2 := kc) (ks2 := ks) dL_law_420 rfl ml_L_158 ok_X11_truncate (show shp 276 = _ from rfl) ⟨_, _, rfl⟩ (by decide) rfl (by decide) (by intro v hv; simp only [List.mem_cons, List.not_mem_nil, or_false] at hv; rcases hv with rfl <;> rfl) (by decide) (by decide) (by decide) (Nat.le_of_eq (Nat.zero_add _)) (Nat.le_of_eq (Nat.zero_add _)) rfl (mt_mono hm (fun r μ2 hq => ?_) (fun E μ2 hx => hx.elim))
  obtain ⟨b, rfl, e7, hI, e0⟩ := hq
  exact tlI (pc := 423) dL_law_423 dL_law_425 dL_law_426 dL_law_429 dL_law_431 dL_law_436 dL_law_438 dL_law_441 dL_law_442 dL_law_443 dL_law_444 dL_law_446 dL_law_447 dL_law_448 dL_law_453 (by decide) hk (fun g => (hv g).2.1) e7 hI e0 K
set_option maxRecDepth 8000 in
set_option maxHeartbeats 4000000 in
theorem L_2 (h : INV μ) (hi : i + 6 ≤ L) (hL : L ≤ 3072) (K : ∀ μ', INV μ' → go 291 20 kc ks (mLaw L xs) Q X 2940 (lLaw i) [] μ') : go 291 20 (kc + 3) (ks + 246) (mLaw L xs) Q X 456 (lLaw i) [] μ := by
  show go 291 20 (kc + 3) (ks + 246) (mLaw L xs) Q X 456 [.ref 6000, .ref 0, .ref 276, .ref 289, .ref 290, .int (iI (i : Nat)), .null, .null, .null] [] μ
  refine go_aload_n (y := mLaw L xs) (pc := 456) dL_law_456 rfl rfl ?_
  refine go_callV (y := mLaw L xs) (pc := 457) (y' := mX10_load) (as := []) (b := 0) (rest := []) (z' := 276) (d' := 16) (kc' := 3) (ks' := 246) (kc2 := kc) (ks2 := ks) dL_law_457 rfl ml_L_159 ok_X10_load (show shp 0 = _ from rfl) ⟨_, _, rfl⟩ (by decide) rfl (by decide) (by intro v hv; simp only [List.mem_cons, List.not_mem_nil, or_false] at hv) (by decide) (by decide) (by decide) (Nat.le_of_eq (Nat.add_comm _ _)) (Nat.le_of_eq (Nat.add_comm _ _)) rfl (mt_mono (D_load h ) (fun r μ1 hq => ?_) (fun E μ1 hx => hx.elim))
  obtain ⟨v, rfl, hv, hm⟩ := hq
  refine go_aload_n (y := mLaw L xs) (pc := 460) dL_law_460 rfl rfl ?_
  refine go_callV (y := mLaw L xs) (pc := 461) (y' := mX11_load) (as := []) (b := 276) (rest := [.int (iI v)]) (z' := 289) (d' := 16) (kc' := 0) (ks' := 0) (kc2 := kc) (ks2 := ks) dL_law_461 rfl ml_L_162 ok_X11_load (show shp 276 = _ from rfl) ⟨_, _, rfl⟩ (by decide) rfl (by decide) (by intro v hv; simp only [List.mem_cons, List.not_mem_nil, or_false] at hv) (by show 1 ≤ 8; decide) (by decide) (by decide) (Nat.le_of_eq (Nat.zero_add _)) (Nat.le_of_eq (Nat.zero_add _)) rfl (mt_mono hm (fun r μ2 hq => ?_) (fun E μ2 hx => hx.elim))
  obtain ⟨rfl, hI⟩ := hq
  exact go_icmp_eq (y := mLaw L xs) (pc := 464) (tgt := 2940) dL_law_464 (by decide) hv hv (fun _ => go_fgt 6 (go_fgt 7 (K μ2 hI))) (fun g => absurd rfl g)
set_option maxRecDepth 8000 in
set_option maxHeartbeats 4000000 in
theorem L_3 (h : INV μ) (hi : i + 6 ≤ L) (hL : L ≤ 3072) (K : ∀ μ', INV μ' → go 291 20 kc ks (mLaw L xs) Q X 2940 (lLaw i) [] μ') : go 291 20 (kc + 3) (ks + 246) (mLaw L xs) Q X 469 (lLaw i) [] μ := by
  show go 291 20 (kc + 3) (ks + 246) (mLaw L xs) Q X 469 [.ref 6000, .ref 0, .ref 276, .ref 289, .ref 290, .int (iI (i : Nat)), .null, .null, .null] [] μ
  refine go_aload_n (y := mLaw L xs) (pc := 469) dL_law_469 rfl rfl ?_
  refine go_callV (y := mLaw L xs) (pc := 470) (y' := mX10_runScript) (as := []) (b := 0) (rest := []) (z' := 276) (d' := 16) (kc' := 3) (ks' := 246) (kc2 := kc) (ks2 := ks) dL_law_470 rfl ml_L_163 ok_X10_runScript (show shp 0 = _ from rfl) ⟨_, _, rfl⟩ (by decide) rfl (by decide) (by intro v hv; simp only [List.mem_cons, List.not_mem_nil, or_false] at hv) (by decide) (by decide) (by decide) (Nat.le_of_eq (Nat.add_comm _ _)) (Nat.le_of_eq (Nat.add_comm _ _)) rfl (mt_mono (D_runScript h ) (fun r μ1 hq => ?_) (fun E μ1 hx => hx.elim))
  obtain ⟨v, rfl, hv, hm⟩ := hq
  refine go_aload_n (y := mLaw L xs) (pc := 473) dL_law_473 rfl rfl ?_
  refine go_callV (y := mLaw L xs) (pc := 474) (y' := mX11_runScript) (as := []) (b := 276) (rest := [.int (iI v)]) (z' := 289) (d' := 16) (kc' := 0) (ks' := 0) (kc2 := kc) (ks2 := ks) dL_law_474 rfl ml_L_166 ok_X11_runScript (show shp 276 = _ from rfl) ⟨_, _, rfl⟩ (by decide) rfl (by decide) (by intro v hv; simp only [List.mem_cons, List.not_mem_nil, or_false] at hv) (by show 1 ≤ 8; decide) (by decide) (by decide) (Nat.le_of_eq (Nat.zero_add _)) (Nat.le_of_eq (Nat.zero_add _)) rfl (mt_mono hm (fun r μ2 hq => ?_) (fun E μ2 hx => hx.elim))
  obtain ⟨rfl, hI⟩ := hq
  exact go_icmp_eq (y := mLaw L xs) (pc := 477) (tgt := 2940) dL_law_477 (by decide) hv hv (fun _ => go_fgt 6 (go_fgt 7 (K μ2 hI))) (fun g => absurd rfl g)
set_option maxRecDepth 8000 in
set_option maxHeartbeats 4000000 in
theorem L_4 (h : INV μ) (hi : i + 6 ≤ L) (hL : L ≤ 3072) (K : ∀ μ', INV μ' → go 291 20 kc ks (mLaw L xs) Q X 2940 (lLaw i) [] μ') : go 291 20 (kc + 3) (ks + 246) (mLaw L xs) Q X 482 (lLaw i) [] μ := by
  show go 291 20 (kc + 3) (ks + 246) (mLaw L xs) Q X 482 [.ref 6000, .ref 0, .ref 276, .ref 289, .ref 290, .int (iI (i : Nat)), .null, .null, .null] [] μ
  refine go_aload_n (y := mLaw L xs) (pc := 482) dL_law_482 rfl rfl ?_
  refine go_callV (y := mLaw L xs) (pc := 483) (y' := mX10_errorCode) (as := []) (b := 0) (rest := []) (z' := 276) (d' := 16) (kc' := 3) (ks' := 246) (kc2 := kc) (ks2 := ks) dL_law_483 rfl ml_L_167 ok_X10_errorCode (show shp 0 = _ from rfl) ⟨_, _, rfl⟩ (by decide) rfl (by decide) (by intro v hv; simp only [List.mem_cons, List.not_mem_nil, or_false] at hv) (by decide) (by decide) (by decide) (Nat.le_of_eq (Nat.add_comm _ _)) (Nat.le_of_eq (Nat.add_comm _ _)) rfl (mt_mono (D_errorCode h ) (fun r μ1 hq => ?_) (fun E μ1 hx => hx.elim))
  obtain ⟨v, rfl, hv, hm⟩ := hq
  refine go_aload_n (y := mLaw L xs) (pc := 486) dL_law_486 rfl rfl ?_
  refine go_callV (y := mLaw L xs) (pc := 487) (y' := mX11_errorCode) (as := []) (b := 276) (rest := [.int (iI v)]) (z' := 289) (d' := 16) (kc' := 0) (ks' := 0) (kc2 := kc) (ks2 := ks) dL_law_487 rfl ml_L_170 ok_X11_errorCode (show shp 276 = _ from rfl) ⟨_, _, rfl⟩ (by decide) rfl (by decide) (by intro v hv; simp only [List.mem_cons, List.not_mem_nil, or_false] at hv) (by show 1 ≤ 8; decide) (by decide) (by decide) (Nat.le_of_eq (Nat.zero_add _)) (Nat.le_of_eq (Nat.zero_add _)) rfl (mt_mono hm (fun r μ2 hq => ?_) (fun E μ2 hx => hx.elim))
  obtain ⟨rfl, hI⟩ := hq
  exact go_icmp_eq (y := mLaw L xs) (pc := 490) (tgt := 2940) dL_law_490 (by decide) hv hv (fun _ => go_fgt 6 (go_fgt 7 (K μ2 hI))) (fun g => absurd rfl g)
set_option maxRecDepth 8000 in
set_option maxHeartbeats 4000000 in
theorem L_5 (h : INV μ) (hi : i + 6 ≤ L) (hL : L ≤ 3072) (K : ∀ μ', INV μ' → go 291 20 kc ks (mLaw L xs) Q X 2940 (lLaw i) [] μ') : go 291 20 (kc + 3) (ks + 246) (mLaw L xs) Q X 495 (lLaw i) [] μ := by
  show go 291 20 (kc + 3) (ks + 246) (mLaw L xs) Q X 495 [.ref 6000, .ref 0, .ref 276, .ref 289, .ref 290, .int (iI (i : Nat)), .null, .null, .null] [] μ
  refine go_aload_n (y := mLaw L xs) (pc := 495) dL_law_495 rfl rfl ?_
  refine go_callV (y := mLaw L xs) (pc := 496) (y' := mX10_errorPosition) (as := []) (b := 0) (rest := []) (z' := 276) (d' := 16) (kc' := 3) (ks' := 246) (kc2 := kc) (ks2 := ks) dL_law_496 rfl ml_L_171 ok_X10_errorPosition (show shp 0 = _ from rfl) ⟨_, _, rfl⟩ (by decide) rfl (by decide) (by intro v hv; simp only [List.mem_cons, List.not_mem_nil, or_false] at hv) (by decide) (by decide) (by decide) (Nat.le_of_eq (Nat.add_comm _ _)) (Nat.le_of_eq (Nat.add_comm _ _)) rfl (mt_mono (D_errorPosition h ) (fun r μ1 hq => ?_) (fun E μ1 hx => hx.elim))
  obtain ⟨v, rfl, hv, hm⟩ := hq
  refine go_aload_n (y := mLaw L xs) (pc := 499) dL_law_499 rfl rfl ?_
  refine go_callV (y := mLaw L xs) (pc := 500) (y' := mX11_errorPosition) (as := []) (b := 276) (rest := [.int (iI v)]) (z' := 289) (d' := 16) (kc' := 0) (ks' := 0) (kc2 := kc) (ks2 := ks) dL_law_500 rfl ml_L_174 ok_X11_errorPosition (show shp 276 = _ from rfl) ⟨_, _, rfl⟩ (by decide) rfl (by decide) (by intro v hv; simp only [List.mem_cons, List.not_mem_nil, or_false] at hv) (by show 1 ≤ 8; decide) (by decide) (by decide) (Nat.le_of_eq (Nat.zero_add _)) (Nat.le_of_eq (Nat.zero_add _)) rfl (mt_mono hm (fun r μ2 hq => ?_) (fun E μ2 hx => hx.elim))
  obtain ⟨rfl, hI⟩ := hq
  exact go_icmp_eq (y := mLaw L xs) (pc := 503) (tgt := 2940) dL_law_503 (by decide) hv hv (fun _ => go_fgt 6 (go_fgt 7 (K μ2 hI))) (fun g => absurd rfl g)
set_option maxRecDepth 8000 in
set_option maxHeartbeats 4000000 in
theorem L_6 (h : INV μ) (hi : i + 6 ≤ L) (hL : L ≤ 3072) (K : ∀ μ', INV μ' → go 291 20 kc ks (mLaw L xs) Q X 2940 (lLaw i) [] μ') : go 291 20 (kc + 3) (ks + 246) (mLaw L xs) Q X 508 (lLaw i) [] μ := by
  show go 291 20 (kc + 3) (ks + 246) (mLaw L xs) Q X 508 [.ref 6000, .ref 0, .ref 276, .ref 289, .ref 290, .int (iI (i : Nat)), .null, .null, .null] [] μ
  refine go_aload_n (y := mLaw L xs) (pc := 508) dL_law_508 rfl rfl ?_
  refine go_callV (y := mLaw L xs) (pc := 509) (y' := mX10_memberCount) (as := []) (b := 0) (rest := []) (z' := 276) (d' := 16) (kc' := 3) (ks' := 246) (kc2 := kc) (ks2 := ks) dL_law_509 rfl ml_L_175 ok_X10_memberCount (show shp 0 = _ from rfl) ⟨_, _, rfl⟩ (by decide) rfl (by decide) (by intro v hv; simp only [List.mem_cons, List.not_mem_nil, or_false] at hv) (by decide) (by decide) (by decide) (Nat.le_of_eq (Nat.add_comm _ _)) (Nat.le_of_eq (Nat.add_comm _ _)) rfl (mt_mono (D_memberCount h ) (fun r μ1 hq => ?_) (fun E μ1 hx => hx.elim))
  obtain ⟨v, rfl, hv, hm⟩ := hq
  refine go_aload_n (y := mLaw L xs) (pc := 512) dL_law_512 rfl rfl ?_
  refine go_callV (y := mLaw L xs) (pc := 513) (y' := mX11_memberCount) (as := []) (b := 276) (rest := [.int (iI v)]) (z' := 289) (d' := 16) (kc' := 0) (ks' := 0) (kc2 := kc) (ks2 := ks) dL_law_513 rfl ml_L_178 ok_X11_memberCount (show shp 276 = _ from rfl) ⟨_, _, rfl⟩ (by decide) rfl (by decide) (by intro v hv; simp only [List.mem_cons, List.not_mem_nil, or_false] at hv) (by show 1 ≤ 8; decide) (by decide) (by decide) (Nat.le_of_eq (Nat.zero_add _)) (Nat.le_of_eq (Nat.zero_add _)) rfl (mt_mono hm (fun r μ2 hq => ?_) (fun E μ2 hx => hx.elim))
  obtain ⟨rfl, hI⟩ := hq
  exact go_icmp_eq (y := mLaw L xs) (pc := 516) (tgt := 2940) dL_law_516 (by decide) hv hv (fun _ => go_fgt 6 (go_fgt 7 (K μ2 hI))) (fun g => absurd rfl g)
set_option maxRecDepth 8000 in
set_option maxHeartbeats 4000000 in
theorem L_7 (h : INV μ) (hi : i + 6 ≤ L) (hL : L ≤ 3072) (K : ∀ μ', INV μ' → go 291 20 kc ks (mLaw L xs) Q X 2940 (lLaw i) [] μ') : go 291 20 (kc + 3) (ks + 246) (mLaw L xs) Q X 521 (lLaw i) [] μ := by
  show go 291 20 (kc + 3) (ks + 246) (mLaw L xs) Q X 521 [.ref 6000, .ref 0, .ref 276, .ref 289, .ref 290, .int (iI (i : Nat)), .null, .null, .null] [] μ
  refine go_aload_n (y := mLaw L xs) (pc := 521) dL_law_521 rfl rfl ?_
  refine go_callV (y := mLaw L xs) (pc := 522) (y' := mX10_findMember) (as := []) (b := 0) (rest := []) (z' := 276) (d' := 16) (kc' := 3) (ks' := 246) (kc2 := kc) (ks2 := ks) dL_law_522 rfl ml_L_179 ok_X10_findMember (show shp 0 = _ from rfl) ⟨_, _, rfl⟩ (by decide) rfl (by decide) (by intro v hv; simp only [List.mem_cons, List.not_mem_nil, or_false] at hv) (by decide) (by decide) (by decide) (Nat.le_of_eq (Nat.add_comm _ _)) (Nat.le_of_eq (Nat.add_comm _ _)) rfl (mt_mono (D_findMember h ) (fun r μ1 hq => ?_) (fun E μ1 hx => hx.elim))
  obtain ⟨v, rfl, hv, hm⟩ := hq
  refine go_aload_n (y := mLaw L xs) (pc := 525) dL_law_525 rfl rfl ?_
  refine go_callV (y := mLaw L xs) (pc := 526) (y' := mX11_findMember) (as := []) (b := 276) (rest := [.int (iI v)]) (z' := 289) (d' := 16) (kc' := 0) (ks' := 0) (kc2 := kc) (ks2 := ks) dL_law_526 rfl ml_L_182 ok_X11_findMember (show shp 276 = _ from rfl) ⟨_, _, rfl⟩ (by decide) rfl (by decide) (by intro v hv; simp only [List.mem_cons, List.not_mem_nil, or_false] at hv) (by show 1 ≤ 8; decide) (by decide) (by decide) (Nat.le_of_eq (Nat.zero_add _)) (Nat.le_of_eq (Nat.zero_add _)) rfl (mt_mono hm (fun r μ2 hq => ?_) (fun E μ2 hx => hx.elim))
  obtain ⟨rfl, hI⟩ := hq
  exact go_icmp_eq (y := mLaw L xs) (pc := 529) (tgt := 2940) dL_law_529 (by decide) hv hv (fun _ => go_fgt 6 (go_fgt 7 (K μ2 hI))) (fun g => absurd rfl g)
set_option maxRecDepth 8000 in
set_option maxHeartbeats 4000000 in
theorem L_8 (h : INV μ) (hi : i + 6 ≤ L) (hL : L ≤ 3072) (K : ∀ μ', INV μ' → go 291 20 kc ks (mLaw L xs) Q X 2940 (lLaw i) [] μ') : go 291 20 (kc + 3) (ks + 246) (mLaw L xs) Q X 534 (lLaw i) [] μ := by
  show go 291 20 (kc + 3) (ks + 246) (mLaw L xs) Q X 534 [.ref 6000, .ref 0, .ref 276, .ref 289, .ref 290, .int (iI (i : Nat)), .null, .null, .null] [] μ
  refine go_aload_n (y := mLaw L xs) (pc := 534) dL_law_534 rfl rfl ?_
  refine go_aload_n (y := mLaw L xs) (pc := 535) dL_law_535 rfl rfl ?_
  refine go_iload (y := mLaw L xs) (pc := 536) dL_law_536 rfl ?_
  refine go_iconst (y := mLaw L xs) (pc := 538) dL_law_538 ?_
  refine go_iadd (y := mLaw L xs) (pc := 539) dL_law_539 ?_
  refine go_sld (pc := 540) (k := i + 1) dL_law_540 (by omega) (by omega) hL ?_
  refine go_aload_n (y := mLaw L xs) (pc := 541) dL_law_541 rfl rfl ?_
  refine go_callSH (y := mLaw L xs) (pc := 542) (y' := mL_weight) (as := [.ref 0, .int (iI (xi xs (i + 1))), .ref 289]) (rest := []) (z' := 291) (d' := 17) (kc' := 3) (ks' := 246) (kc2 := kc) (ks2 := ks) dL_law_542 rfl ml_L_183 ok_L_weight rfl (by decide) (by intro v hv; simp only [List.mem_cons, List.not_mem_nil, or_false] at hv; rcases hv with rfl | rfl | rfl <;> rfl) (by decide) (Nat.le_refl _) (by decide) (Nat.le_of_eq (Nat.add_comm _ _)) (Nat.le_of_eq (Nat.add_comm _ _)) rfl (mt_mono (T_weight h (rng_t _)) (fun r μ1 hq => ?_) (fun E μ1 hx => hx.elim))
  obtain ⟨k, v, rfl, hk, hv, hm⟩ := hq
  refine go_istore (y := mLaw L xs) (pc := 545) dL_law_545 (by show 6 < 9; decide) ?_
  refine go_aload_n (y := mLaw L xs) (pc := 547) dL_law_547 rfl rfl ?_
  refine go_aload_n (y := mLaw L xs) (pc := 548) dL_law_548 rfl rfl ?_
  refine go_iload (y := mLaw L xs) (pc := 549) dL_law_549 rfl ?_
  refine go_iconst (y := mLaw L xs) (pc := 551) dL_law_551 ?_
  refine go_iadd (y := mLaw L xs) (pc := 552) dL_law_552 ?_
  refine go_sld (pc := 553) (k := i + 1) dL_law_553 (by omega) (by omega) hL ?_
  refine go_callV (y := mLaw L xs) (pc := 554) (y' := mX11_weight) (as := [.int (iI (xi xs (i + 1)))]) (b := 276) (rest := []) (z' := 289) (d' := 16) (kc' := 0) (ks' := 0) (kc2 := kc) (ks2 := ks) dL_law_554 rfl ml_L_185 ok_X11_weight (show shp 276 = _ from rfl) ⟨_, _, rfl⟩ (by decide) rfl (by decide) (by intro v hv; simp only [List.mem_cons, List.not_mem_nil, or_false] at hv; rcases hv with rfl <;> rfl) (by decide) (by decide) (by decide) (Nat.le_of_eq (Nat.zero_add _)) (Nat.le_of_eq (Nat.zero_add _)) rfl (mt_mono hm (fun r μ2 hq => ?_) (fun E μ2 hx => hx.elim))
  obtain ⟨b, rfl, e7, hI, e0⟩ := hq
  exact tlI (pc := 557) dL_law_557 dL_law_559 dL_law_560 dL_law_563 dL_law_565 dL_law_570 dL_law_572 dL_law_575 dL_law_576 dL_law_577 dL_law_578 dL_law_580 dL_law_581 dL_law_582 dL_law_587 (by decide) hk (fun g => (hv g).2.1) e7 hI e0 K
set_option maxRecDepth 8000 in
set_option maxHeartbeats 4000000 in
theorem L_9 (h : INV μ) (hi : i + 6 ≤ L) (hL : L ≤ 3072) (K : ∀ μ', INV μ' → go 291 20 kc ks (mLaw L xs) Q X 2940 (lLaw i) [] μ') : go 291 20 (kc + 3) (ks + 246) (mLaw L xs) Q X 590 (lLaw i) [] μ := by
  show go 291 20 (kc + 3) (ks + 246) (mLaw L xs) Q X 590 [.ref 6000, .ref 0, .ref 276, .ref 289, .ref 290, .int (iI (i : Nat)), .null, .null, .null] [] μ
  refine go_aload_n (y := mLaw L xs) (pc := 590) dL_law_590 rfl rfl ?_
  refine go_aload_n (y := mLaw L xs) (pc := 591) dL_law_591 rfl rfl ?_
  refine go_iload (y := mLaw L xs) (pc := 592) dL_law_592 rfl ?_
  refine go_iconst (y := mLaw L xs) (pc := 594) dL_law_594 ?_
  refine go_iadd (y := mLaw L xs) (pc := 595) dL_law_595 ?_
  refine go_sld (pc := 596) (k := i + 1) dL_law_596 (by omega) (by omega) hL ?_
  refine go_aload_n (y := mLaw L xs) (pc := 597) dL_law_597 rfl rfl ?_
  refine go_callSH (y := mLaw L xs) (pc := 598) (y' := mL_purse) (as := [.ref 0, .int (iI (xi xs (i + 1))), .ref 289]) (rest := []) (z' := 291) (d' := 17) (kc' := 3) (ks' := 246) (kc2 := kc) (ks2 := ks) dL_law_598 rfl ml_L_186 ok_L_purse rfl (by decide) (by intro v hv; simp only [List.mem_cons, List.not_mem_nil, or_false] at hv; rcases hv with rfl | rfl | rfl <;> rfl) (by decide) (Nat.le_refl _) (by decide) (Nat.le_of_eq (Nat.add_comm _ _)) (Nat.le_of_eq (Nat.add_comm _ _)) rfl (mt_mono (T_purse h (rng_t _)) (fun r μ1 hq => ?_) (fun E μ1 hx => hx.elim))
  obtain ⟨k, v, rfl, hk, hv, hm⟩ := hq
  refine go_istore (y := mLaw L xs) (pc := 601) dL_law_601 (by show 6 < 9; decide) ?_
  refine go_aload_n (y := mLaw L xs) (pc := 603) dL_law_603 rfl rfl ?_
  refine go_aload_n (y := mLaw L xs) (pc := 604) dL_law_604 rfl rfl ?_
  refine go_iload (y := mLaw L xs) (pc := 605) dL_law_605 rfl ?_
  refine go_iconst (y := mLaw L xs) (pc := 607) dL_law_607 ?_
  refine go_iadd (y := mLaw L xs) (pc := 608) dL_law_608 ?_
  refine go_sld (pc := 609) (k := i + 1) dL_law_609 (by omega) (by omega) hL ?_
  refine go_callV (y := mLaw L xs) (pc := 610) (y' := mX11_purse) (as := [.int (iI (xi xs (i + 1)))]) (b := 276) (rest := []) (z' := 289) (d' := 16) (kc' := 0) (ks' := 0) (kc2 := kc) (ks2 := ks) dL_law_610 rfl ml_L_188 ok_X11_purse (show shp 276 = _ from rfl) ⟨_, _, rfl⟩ (by decide) rfl (by decide) (by intro v hv; simp only [List.mem_cons, List.not_mem_nil, or_false] at hv; rcases hv with rfl <;> rfl) (by decide) (by decide) (by decide) (Nat.le_of_eq (Nat.zero_add _)) (Nat.le_of_eq (Nat.zero_add _)) rfl (mt_mono hm (fun r μ2 hq => ?_) (fun E μ2 hx => hx.elim))
  obtain ⟨b, rfl, e7, hI, e0⟩ := hq
  exact tlI (pc := 613) dL_law_613 dL_law_615 dL_law_616 dL_law_619 dL_law_621 dL_law_626 dL_law_628 dL_law_631 dL_law_632 dL_law_633 dL_law_634 dL_law_636 dL_law_637 dL_law_638 dL_law_643 (by decide) hk (fun g => (hv g).2.1) e7 hI e0 K
set_option maxRecDepth 8000 in
set_option maxHeartbeats 4000000 in
theorem L_10 (h : INV μ) (hi : i + 6 ≤ L) (hL : L ≤ 3072) (K : ∀ μ', INV μ' → go 291 20 kc ks (mLaw L xs) Q X 2940 (lLaw i) [] μ') : go 291 20 (kc + 3) (ks + 246) (mLaw L xs) Q X 646 (lLaw i) [] μ := by
  show go 291 20 (kc + 3) (ks + 246) (mLaw L xs) Q X 646 [.ref 6000, .ref 0, .ref 276, .ref 289, .ref 290, .int (iI (i : Nat)), .null, .null, .null] [] μ
  refine go_aload_n (y := mLaw L xs) (pc := 646) dL_law_646 rfl rfl ?_
  refine go_aload_n (y := mLaw L xs) (pc := 647) dL_law_647 rfl rfl ?_
  refine go_iload (y := mLaw L xs) (pc := 648) dL_law_648 rfl ?_
  refine go_iconst (y := mLaw L xs) (pc := 650) dL_law_650 ?_
  refine go_iadd (y := mLaw L xs) (pc := 651) dL_law_651 ?_
  refine go_sld (pc := 652) (k := i + 1) dL_law_652 (by omega) (by omega) hL ?_
  refine go_aload_n (y := mLaw L xs) (pc := 653) dL_law_653 rfl rfl ?_
  refine go_callSH (y := mLaw L xs) (pc := 654) (y' := mL_sharpness) (as := [.ref 0, .int (iI (xi xs (i + 1))), .ref 289]) (rest := []) (z' := 291) (d' := 17) (kc' := 3) (ks' := 246) (kc2 := kc) (ks2 := ks) dL_law_654 rfl ml_L_189 ok_L_sharpness rfl (by decide) (by intro v hv; simp only [List.mem_cons, List.not_mem_nil, or_false] at hv; rcases hv with rfl | rfl | rfl <;> rfl) (by decide) (Nat.le_refl _) (by decide) (Nat.le_of_eq (Nat.add_comm _ _)) (Nat.le_of_eq (Nat.add_comm _ _)) rfl (mt_mono (T_sharpness h (rng_t _)) (fun r μ1 hq => ?_) (fun E μ1 hx => hx.elim))
  obtain ⟨k, v, rfl, hk, hv, hm⟩ := hq
  refine go_istore (y := mLaw L xs) (pc := 657) dL_law_657 (by show 6 < 9; decide) ?_
  refine go_aload_n (y := mLaw L xs) (pc := 659) dL_law_659 rfl rfl ?_
  refine go_aload_n (y := mLaw L xs) (pc := 660) dL_law_660 rfl rfl ?_
  refine go_iload (y := mLaw L xs) (pc := 661) dL_law_661 rfl ?_
  refine go_iconst (y := mLaw L xs) (pc := 663) dL_law_663 ?_
  refine go_iadd (y := mLaw L xs) (pc := 664) dL_law_664 ?_
  refine go_sld (pc := 665) (k := i + 1) dL_law_665 (by omega) (by omega) hL ?_
  refine go_callV (y := mLaw L xs) (pc := 666) (y' := mX11_sharpness) (as := [.int (iI (xi xs (i + 1)))]) (b := 276) (rest := []) (z' := 289) (d' := 16) (kc' := 0) (ks' := 0) (kc2 := kc) (ks2 := ks) dL_law_666 rfl ml_L_191 ok_X11_sharpness (show shp 276 = _ from rfl) ⟨_, _, rfl⟩ (by decide) rfl (by decide) (by intro v hv; simp only [List.mem_cons, List.not_mem_nil, or_false] at hv; rcases hv with rfl <;> rfl) (by decide) (by decide) (by decide) (Nat.le_of_eq (Nat.zero_add _)) (Nat.le_of_eq (Nat.zero_add _)) rfl (mt_mono hm (fun r μ2 hq => ?_) (fun E μ2 hx => hx.elim))
  obtain ⟨b, rfl, e7, hI, e0⟩ := hq
  exact tlI (pc := 669) dL_law_669 dL_law_671 dL_law_672 dL_law_675 dL_law_677 dL_law_682 dL_law_684 dL_law_687 dL_law_688 dL_law_689 dL_law_690 dL_law_692 dL_law_693 dL_law_694 dL_law_699 (by decide) hk (fun g => (hv g).2.1) e7 hI e0 K
set_option maxRecDepth 8000 in
set_option maxHeartbeats 4000000 in
theorem L_11 (h : INV μ) (hi : i + 6 ≤ L) (hL : L ≤ 3072) (K : ∀ μ', INV μ' → go 291 20 kc ks (mLaw L xs) Q X 2940 (lLaw i) [] μ') : go 291 20 (kc + 3) (ks + 246) (mLaw L xs) Q X 702 (lLaw i) [] μ := by
  show go 291 20 (kc + 3) (ks + 246) (mLaw L xs) Q X 702 [.ref 6000, .ref 0, .ref 276, .ref 289, .ref 290, .int (iI (i : Nat)), .null, .null, .null] [] μ
  refine go_aload_n (y := mLaw L xs) (pc := 702) dL_law_702 rfl rfl ?_
  refine go_aload_n (y := mLaw L xs) (pc := 703) dL_law_703 rfl rfl ?_
  refine go_iload (y := mLaw L xs) (pc := 704) dL_law_704 rfl ?_
  refine go_iconst (y := mLaw L xs) (pc := 706) dL_law_706 ?_
  refine go_iadd (y := mLaw L xs) (pc := 707) dL_law_707 ?_
  refine go_sld (pc := 708) (k := i + 1) dL_law_708 (by omega) (by omega) hL ?_
  refine go_aload_n (y := mLaw L xs) (pc := 709) dL_law_709 rfl rfl ?_
  refine go_callSH (y := mLaw L xs) (pc := 710) (y' := mL_speechesOf) (as := [.ref 0, .int (iI (xi xs (i + 1))), .ref 289]) (rest := []) (z' := 291) (d' := 17) (kc' := 3) (ks' := 246) (kc2 := kc) (ks2 := ks) dL_law_710 rfl ml_L_192 ok_L_speechesOf rfl (by decide) (by intro v hv; simp only [List.mem_cons, List.not_mem_nil, or_false] at hv; rcases hv with rfl | rfl | rfl <;> rfl) (by decide) (Nat.le_refl _) (by decide) (Nat.le_of_eq (Nat.add_comm _ _)) (Nat.le_of_eq (Nat.add_comm _ _)) rfl (mt_mono (T_speechesOf h (rng_t _)) (fun r μ1 hq => ?_) (fun E μ1 hx => hx.elim))
  obtain ⟨k, v, rfl, hk, hv, hm⟩ := hq
  refine go_istore (y := mLaw L xs) (pc := 713) dL_law_713 (by show 6 < 9; decide) ?_
  refine go_aload_n (y := mLaw L xs) (pc := 715) dL_law_715 rfl rfl ?_
  refine go_aload_n (y := mLaw L xs) (pc := 716) dL_law_716 rfl rfl ?_
  refine go_iload (y := mLaw L xs) (pc := 717) dL_law_717 rfl ?_
  refine go_iconst (y := mLaw L xs) (pc := 719) dL_law_719 ?_
  refine go_iadd (y := mLaw L xs) (pc := 720) dL_law_720 ?_
  refine go_sld (pc := 721) (k := i + 1) dL_law_721 (by omega) (by omega) hL ?_
  refine go_callV (y := mLaw L xs) (pc := 722) (y' := mX11_speechesOf) (as := [.int (iI (xi xs (i + 1)))]) (b := 276) (rest := []) (z' := 289) (d' := 16) (kc' := 0) (ks' := 0) (kc2 := kc) (ks2 := ks) dL_law_722 rfl ml_L_194 ok_X11_speechesOf (show shp 276 = _ from rfl) ⟨_, _, rfl⟩ (by decide) rfl (by decide) (by intro v hv; simp only [List.mem_cons, List.not_mem_nil, or_false] at hv; rcases hv with rfl <;> rfl) (by decide) (by decide) (by decide) (Nat.le_of_eq (Nat.zero_add _)) (Nat.le_of_eq (Nat.zero_add _)) rfl (mt_mono hm (fun r μ2 hq => ?_) (fun E μ2 hx => hx.elim))
  obtain ⟨b, rfl, e7, hI, e0⟩ := hq
  exact tlI (pc := 725) dL_law_725 dL_law_727 dL_law_728 dL_law_731 dL_law_733 dL_law_738 dL_law_740 dL_law_743 dL_law_744 dL_law_745 dL_law_746 dL_law_748 dL_law_749 dL_law_750 dL_law_755 (by decide) hk (fun g => (hv g).2.1) e7 hI e0 K
set_option maxRecDepth 8000 in
set_option maxHeartbeats 4000000 in
theorem L_12 (h : INV μ) (hi : i + 6 ≤ L) (hL : L ≤ 3072) (K : ∀ μ', INV μ' → go 291 20 kc ks (mLaw L xs) Q X 2940 (lLaw i) [] μ') : go 291 20 (kc + 3) (ks + 246) (mLaw L xs) Q X 758 (lLaw i) [] μ := by
  show go 291 20 (kc + 3) (ks + 246) (mLaw L xs) Q X 758 [.ref 6000, .ref 0, .ref 276, .ref 289, .ref 290, .int (iI (i : Nat)), .null, .null, .null] [] μ
  refine go_aload_n (y := mLaw L xs) (pc := 758) dL_law_758 rfl rfl ?_
  refine go_aload_n (y := mLaw L xs) (pc := 759) dL_law_759 rfl rfl ?_
  refine go_iload (y := mLaw L xs) (pc := 760) dL_law_760 rfl ?_
  refine go_iconst (y := mLaw L xs) (pc := 762) dL_law_762 ?_
  refine go_iadd (y := mLaw L xs) (pc := 763) dL_law_763 ?_
  refine go_sld (pc := 764) (k := i + 1) dL_law_764 (by omega) (by omega) hL ?_
  refine go_aload_n (y := mLaw L xs) (pc := 765) dL_law_765 rfl rfl ?_
  refine go_iload (y := mLaw L xs) (pc := 766) dL_law_766 rfl ?_
  refine go_iconst (y := mLaw L xs) (pc := 768) dL_law_768 ?_
  refine go_iadd (y := mLaw L xs) (pc := 769) dL_law_769 ?_
  refine go_sld (pc := 770) (k := i + 2) dL_law_770 (by omega) (by omega) hL ?_
  refine go_aload_n (y := mLaw L xs) (pc := 771) dL_law_771 rfl rfl ?_
  refine go_callSH (y := mLaw L xs) (pc := 772) (y' := mL_leaning) (as := [.ref 0, .int (iI (xi xs (i + 1))), .int (iI (xi xs (i + 2))), .ref 289]) (rest := []) (z' := 291) (d' := 17) (kc' := 3) (ks' := 246) (kc2 := kc) (ks2 := ks) dL_law_772 rfl ml_L_195 ok_L_leaning rfl (by decide) (by intro v hv; simp only [List.mem_cons, List.not_mem_nil, or_false] at hv; rcases hv with rfl | rfl | rfl | rfl <;> rfl) (by decide) (Nat.le_refl _) (by decide) (Nat.le_of_eq (Nat.add_comm _ _)) (Nat.le_of_eq (Nat.add_comm _ _)) rfl (mt_mono (T_leaning h (rng_t _) (rng_t _)) (fun r μ1 hq => ?_) (fun E μ1 hx => hx.elim))
  obtain ⟨k, v, rfl, hk, hv, hm⟩ := hq
  refine go_istore (y := mLaw L xs) (pc := 775) dL_law_775 (by show 6 < 9; decide) ?_
  refine go_aload_n (y := mLaw L xs) (pc := 777) dL_law_777 rfl rfl ?_
  refine go_aload_n (y := mLaw L xs) (pc := 778) dL_law_778 rfl rfl ?_
  refine go_iload (y := mLaw L xs) (pc := 779) dL_law_779 rfl ?_
  refine go_iconst (y := mLaw L xs) (pc := 781) dL_law_781 ?_
  refine go_iadd (y := mLaw L xs) (pc := 782) dL_law_782 ?_
  refine go_sld (pc := 783) (k := i + 1) dL_law_783 (by omega) (by omega) hL ?_
  refine go_aload_n (y := mLaw L xs) (pc := 784) dL_law_784 rfl rfl ?_
  refine go_iload (y := mLaw L xs) (pc := 785) dL_law_785 rfl ?_
  refine go_iconst (y := mLaw L xs) (pc := 787) dL_law_787 ?_
  refine go_iadd (y := mLaw L xs) (pc := 788) dL_law_788 ?_
  refine go_sld (pc := 789) (k := i + 2) dL_law_789 (by omega) (by omega) hL ?_
  refine go_callV (y := mLaw L xs) (pc := 790) (y' := mX11_leaning) (as := [.int (iI (xi xs (i + 1))), .int (iI (xi xs (i + 2)))]) (b := 276) (rest := []) (z' := 289) (d' := 16) (kc' := 0) (ks' := 0) (kc2 := kc) (ks2 := ks) dL_law_790 rfl ml_L_198 ok_X11_leaning (show shp 276 = _ from rfl) ⟨_, _, rfl⟩ (by decide) rfl (by decide) (by intro v hv; simp only [List.mem_cons, List.not_mem_nil, or_false] at hv; rcases hv with rfl | rfl <;> rfl) (by decide) (by decide) (by decide) (Nat.le_of_eq (Nat.zero_add _)) (Nat.le_of_eq (Nat.zero_add _)) rfl (mt_mono hm (fun r μ2 hq => ?_) (fun E μ2 hx => hx.elim))
  obtain ⟨b, rfl, e7, hI, e0⟩ := hq
  exact tlI (pc := 793) dL_law_793 dL_law_795 dL_law_796 dL_law_799 dL_law_801 dL_law_806 dL_law_808 dL_law_811 dL_law_812 dL_law_813 dL_law_814 dL_law_816 dL_law_817 dL_law_818 dL_law_823 (by decide) hk (fun g => (hv g).2.1) e7 hI e0 K
set_option maxRecDepth 8000 in
set_option maxHeartbeats 4000000 in
theorem L_13 (h : INV μ) (hi : i + 6 ≤ L) (hL : L ≤ 3072) (K : ∀ μ', INV μ' → go 291 20 kc ks (mLaw L xs) Q X 2940 (lLaw i) [] μ') : go 291 20 (kc + 3) (ks + 246) (mLaw L xs) Q X 826 (lLaw i) [] μ := by
  show go 291 20 (kc + 3) (ks + 246) (mLaw L xs) Q X 826 [.ref 6000, .ref 0, .ref 276, .ref 289, .ref 290, .int (iI (i : Nat)), .null, .null, .null] [] μ
  refine go_aload_n (y := mLaw L xs) (pc := 826) dL_law_826 rfl rfl ?_
  refine go_aload_n (y := mLaw L xs) (pc := 827) dL_law_827 rfl rfl ?_
  refine go_iload (y := mLaw L xs) (pc := 828) dL_law_828 rfl ?_
  refine go_iconst (y := mLaw L xs) (pc := 830) dL_law_830 ?_
  refine go_iadd (y := mLaw L xs) (pc := 831) dL_law_831 ?_
  refine go_sld (pc := 832) (k := i + 1) dL_law_832 (by omega) (by omega) hL ?_
  refine go_aload_n (y := mLaw L xs) (pc := 833) dL_law_833 rfl rfl ?_
  refine go_callSH (y := mLaw L xs) (pc := 834) (y' := mL_chairOf) (as := [.ref 0, .int (iI (xi xs (i + 1))), .ref 289]) (rest := []) (z' := 291) (d' := 17) (kc' := 3) (ks' := 246) (kc2 := kc) (ks2 := ks) dL_law_834 rfl ml_L_199 ok_L_chairOf rfl (by decide) (by intro v hv; simp only [List.mem_cons, List.not_mem_nil, or_false] at hv; rcases hv with rfl | rfl | rfl <;> rfl) (by decide) (Nat.le_refl _) (by decide) (Nat.le_of_eq (Nat.add_comm _ _)) (Nat.le_of_eq (Nat.add_comm _ _)) rfl (mt_mono (T_chairOf h (rng_t _)) (fun r μ1 hq => ?_) (fun E μ1 hx => hx.elim))
  obtain ⟨k, v, rfl, hk, hv, hm⟩ := hq
  refine go_istore (y := mLaw L xs) (pc := 837) dL_law_837 (by show 6 < 9; decide) ?_
  refine go_aload_n (y := mLaw L xs) (pc := 839) dL_law_839 rfl rfl ?_
  refine go_aload_n (y := mLaw L xs) (pc := 840) dL_law_840 rfl rfl ?_
  refine go_iload (y := mLaw L xs) (pc := 841) dL_law_841 rfl ?_
  refine go_iconst (y := mLaw L xs) (pc := 843) dL_law_843 ?_
  refine go_iadd (y := mLaw L xs) (pc := 844) dL_law_844 ?_
  refine go_sld (pc := 845) (k := i + 1) dL_law_845 (by omega) (by omega) hL ?_
  refine go_callV (y := mLaw L xs) (pc := 846) (y' := mX11_chairOf) (as := [.int (iI (xi xs (i + 1)))]) (b := 276) (rest := []) (z' := 289) (d' := 16) (kc' := 0) (ks' := 0) (kc2 := kc) (ks2 := ks) dL_law_846 rfl ml_L_201 ok_X11_chairOf (show shp 276 = _ from rfl) ⟨_, _, rfl⟩ (by decide) rfl (by decide) (by intro v hv; simp only [List.mem_cons, List.not_mem_nil, or_false] at hv; rcases hv with rfl <;> rfl) (by decide) (by decide) (by decide) (Nat.le_of_eq (Nat.zero_add _)) (Nat.le_of_eq (Nat.zero_add _)) rfl (mt_mono hm (fun r μ2 hq => ?_) (fun E μ2 hx => hx.elim))
  obtain ⟨b, rfl, e7, hI, e0⟩ := hq
  exact tlI (pc := 849) dL_law_849 dL_law_851 dL_law_852 dL_law_855 dL_law_857 dL_law_862 dL_law_864 dL_law_867 dL_law_868 dL_law_869 dL_law_870 dL_law_872 dL_law_873 dL_law_874 dL_law_879 (by decide) hk (fun g => (hv g).2.1) e7 hI e0 K
set_option maxRecDepth 8000 in
set_option maxHeartbeats 4000000 in
theorem L_14 (h : INV μ) (hi : i + 6 ≤ L) (hL : L ≤ 3072) (K : ∀ μ', INV μ' → go 291 20 kc ks (mLaw L xs) Q X 2940 (lLaw i) [] μ') : go 291 20 (kc + 3) (ks + 246) (mLaw L xs) Q X 882 (lLaw i) [] μ := by
  show go 291 20 (kc + 3) (ks + 246) (mLaw L xs) Q X 882 [.ref 6000, .ref 0, .ref 276, .ref 289, .ref 290, .int (iI (i : Nat)), .null, .null, .null] [] μ
  refine go_aload_n (y := mLaw L xs) (pc := 882) dL_law_882 rfl rfl ?_
  refine go_aload_n (y := mLaw L xs) (pc := 883) dL_law_883 rfl rfl ?_
  refine go_iload (y := mLaw L xs) (pc := 884) dL_law_884 rfl ?_
  refine go_iconst (y := mLaw L xs) (pc := 886) dL_law_886 ?_
  refine go_iadd (y := mLaw L xs) (pc := 887) dL_law_887 ?_
  refine go_sld (pc := 888) (k := i + 1) dL_law_888 (by omega) (by omega) hL ?_
  refine go_aload_n (y := mLaw L xs) (pc := 889) dL_law_889 rfl rfl ?_
  refine go_callSH (y := mLaw L xs) (pc := 890) (y' := mL_placeInList) (as := [.ref 0, .int (iI (xi xs (i + 1))), .ref 289]) (rest := []) (z' := 291) (d' := 17) (kc' := 3) (ks' := 246) (kc2 := kc) (ks2 := ks) dL_law_890 rfl ml_L_202 ok_L_placeInList rfl (by decide) (by intro v hv; simp only [List.mem_cons, List.not_mem_nil, or_false] at hv; rcases hv with rfl | rfl | rfl <;> rfl) (by decide) (Nat.le_refl _) (by decide) (Nat.le_of_eq (Nat.add_comm _ _)) (Nat.le_of_eq (Nat.add_comm _ _)) rfl (mt_mono (T_placeInList h (rng_t _)) (fun r μ1 hq => ?_) (fun E μ1 hx => hx.elim))
  obtain ⟨k, v, rfl, hk, hv, hm⟩ := hq
  refine go_istore (y := mLaw L xs) (pc := 893) dL_law_893 (by show 6 < 9; decide) ?_
  refine go_aload_n (y := mLaw L xs) (pc := 895) dL_law_895 rfl rfl ?_
  refine go_aload_n (y := mLaw L xs) (pc := 896) dL_law_896 rfl rfl ?_
  refine go_iload (y := mLaw L xs) (pc := 897) dL_law_897 rfl ?_
  refine go_iconst (y := mLaw L xs) (pc := 899) dL_law_899 ?_
  refine go_iadd (y := mLaw L xs) (pc := 900) dL_law_900 ?_
  refine go_sld (pc := 901) (k := i + 1) dL_law_901 (by omega) (by omega) hL ?_
  refine go_callV (y := mLaw L xs) (pc := 902) (y' := mX11_placeInList) (as := [.int (iI (xi xs (i + 1)))]) (b := 276) (rest := []) (z' := 289) (d' := 16) (kc' := 0) (ks' := 0) (kc2 := kc) (ks2 := ks) dL_law_902 rfl ml_L_204 ok_X11_placeInList (show shp 276 = _ from rfl) ⟨_, _, rfl⟩ (by decide) rfl (by decide) (by intro v hv; simp only [List.mem_cons, List.not_mem_nil, or_false] at hv; rcases hv with rfl <;> rfl) (by decide) (by decide) (by decide) (Nat.le_of_eq (Nat.zero_add _)) (Nat.le_of_eq (Nat.zero_add _)) rfl (mt_mono hm (fun r μ2 hq => ?_) (fun E μ2 hx => hx.elim))
  obtain ⟨b, rfl, e7, hI, e0⟩ := hq
  exact tlI (pc := 905) dL_law_905 dL_law_907 dL_law_908 dL_law_911 dL_law_913 dL_law_918 dL_law_920 dL_law_923 dL_law_924 dL_law_925 dL_law_926 dL_law_928 dL_law_929 dL_law_930 dL_law_935 (by decide) hk (fun g => (hv g).2.1) e7 hI e0 K
set_option maxRecDepth 8000 in
set_option maxHeartbeats 4000000 in
theorem L_15 (h : INV μ) (hi : i + 6 ≤ L) (hL : L ≤ 3072) (K : ∀ μ', INV μ' → go 291 20 kc ks (mLaw L xs) Q X 2940 (lLaw i) [] μ') : go 291 20 (kc + 3) (ks + 246) (mLaw L xs) Q X 938 (lLaw i) [] μ := by
  show go 291 20 (kc + 3) (ks + 246) (mLaw L xs) Q X 938 [.ref 6000, .ref 0, .ref 276, .ref 289, .ref 290, .int (iI (i : Nat)), .null, .null, .null] [] μ
  refine go_aload_n (y := mLaw L xs) (pc := 938) dL_law_938 rfl rfl ?_
  refine go_callV (y := mLaw L xs) (pc := 939) (y' := mX10_motionCount) (as := []) (b := 0) (rest := []) (z' := 276) (d' := 16) (kc' := 3) (ks' := 246) (kc2 := kc) (ks2 := ks) dL_law_939 rfl ml_L_205 ok_X10_motionCount (show shp 0 = _ from rfl) ⟨_, _, rfl⟩ (by decide) rfl (by decide) (by intro v hv; simp only [List.mem_cons, List.not_mem_nil, or_false] at hv) (by decide) (by decide) (by decide) (Nat.le_of_eq (Nat.add_comm _ _)) (Nat.le_of_eq (Nat.add_comm _ _)) rfl (mt_mono (D_motionCount h ) (fun r μ1 hq => ?_) (fun E μ1 hx => hx.elim))
  obtain ⟨v, rfl, hv, hm⟩ := hq
  refine go_aload_n (y := mLaw L xs) (pc := 942) dL_law_942 rfl rfl ?_
  refine go_callV (y := mLaw L xs) (pc := 943) (y' := mX11_motionCount) (as := []) (b := 276) (rest := [.int (iI v)]) (z' := 289) (d' := 16) (kc' := 0) (ks' := 0) (kc2 := kc) (ks2 := ks) dL_law_943 rfl ml_L_208 ok_X11_motionCount (show shp 276 = _ from rfl) ⟨_, _, rfl⟩ (by decide) rfl (by decide) (by intro v hv; simp only [List.mem_cons, List.not_mem_nil, or_false] at hv) (by show 1 ≤ 8; decide) (by decide) (by decide) (Nat.le_of_eq (Nat.zero_add _)) (Nat.le_of_eq (Nat.zero_add _)) rfl (mt_mono hm (fun r μ2 hq => ?_) (fun E μ2 hx => hx.elim))
  obtain ⟨rfl, hI⟩ := hq
  exact go_icmp_eq (y := mLaw L xs) (pc := 946) (tgt := 2940) dL_law_946 (by decide) hv hv (fun _ => go_fgt 6 (go_fgt 7 (K μ2 hI))) (fun g => absurd rfl g)
set_option maxRecDepth 8000 in
set_option maxHeartbeats 4000000 in
theorem L_16 (h : INV μ) (hi : i + 6 ≤ L) (hL : L ≤ 3072) (K : ∀ μ', INV μ' → go 291 20 kc ks (mLaw L xs) Q X 2940 (lLaw i) [] μ') : go 291 20 (kc + 3) (ks + 246) (mLaw L xs) Q X 951 (lLaw i) [] μ := by
  show go 291 20 (kc + 3) (ks + 246) (mLaw L xs) Q X 951 [.ref 6000, .ref 0, .ref 276, .ref 289, .ref 290, .int (iI (i : Nat)), .null, .null, .null] [] μ
  refine go_aload_n (y := mLaw L xs) (pc := 951) dL_law_951 rfl rfl ?_
  refine go_aload_n (y := mLaw L xs) (pc := 952) dL_law_952 rfl rfl ?_
  refine go_iload (y := mLaw L xs) (pc := 953) dL_law_953 rfl ?_
  refine go_iconst (y := mLaw L xs) (pc := 955) dL_law_955 ?_
  refine go_iadd (y := mLaw L xs) (pc := 956) dL_law_956 ?_
  refine go_sld (pc := 957) (k := i + 1) dL_law_957 (by omega) (by omega) hL ?_
  refine go_aload_n (y := mLaw L xs) (pc := 958) dL_law_958 rfl rfl ?_
  refine go_callSH (y := mLaw L xs) (pc := 959) (y' := mL_proposer) (as := [.ref 0, .int (iI (xi xs (i + 1))), .ref 289]) (rest := []) (z' := 291) (d' := 17) (kc' := 3) (ks' := 246) (kc2 := kc) (ks2 := ks) dL_law_959 rfl ml_L_209 ok_L_proposer rfl (by decide) (by intro v hv; simp only [List.mem_cons, List.not_mem_nil, or_false] at hv; rcases hv with rfl | rfl | rfl <;> rfl) (by decide) (Nat.le_refl _) (by decide) (Nat.le_of_eq (Nat.add_comm _ _)) (Nat.le_of_eq (Nat.add_comm _ _)) rfl (mt_mono (T_proposer h (rng_t _)) (fun r μ1 hq => ?_) (fun E μ1 hx => hx.elim))
  obtain ⟨k, v, rfl, hk, hv, hm⟩ := hq
  refine go_istore (y := mLaw L xs) (pc := 962) dL_law_962 (by show 6 < 9; decide) ?_
  refine go_aload_n (y := mLaw L xs) (pc := 964) dL_law_964 rfl rfl ?_
  refine go_aload_n (y := mLaw L xs) (pc := 965) dL_law_965 rfl rfl ?_
  refine go_iload (y := mLaw L xs) (pc := 966) dL_law_966 rfl ?_
  refine go_iconst (y := mLaw L xs) (pc := 968) dL_law_968 ?_
  refine go_iadd (y := mLaw L xs) (pc := 969) dL_law_969 ?_
  refine go_sld (pc := 970) (k := i + 1) dL_law_970 (by omega) (by omega) hL ?_
  refine go_callV (y := mLaw L xs) (pc := 971) (y' := mX11_proposer) (as := [.int (iI (xi xs (i + 1)))]) (b := 276) (rest := []) (z' := 289) (d' := 16) (kc' := 0) (ks' := 0) (kc2 := kc) (ks2 := ks) dL_law_971 rfl ml_L_211 ok_X11_proposer (show shp 276 = _ from rfl) ⟨_, _, rfl⟩ (by decide) rfl (by decide) (by intro v hv; simp only [List.mem_cons, List.not_mem_nil, or_false] at hv; rcases hv with rfl <;> rfl) (by decide) (by decide) (by decide) (Nat.le_of_eq (Nat.zero_add _)) (Nat.le_of_eq (Nat.zero_add _)) rfl (mt_mono hm (fun r μ2 hq => ?_) (fun E μ2 hx => hx.elim))
  obtain ⟨b, rfl, e7, hI, e0⟩ := hq
  exact tlI (pc := 974) dL_law_974 dL_law_976 dL_law_977 dL_law_980 dL_law_982 dL_law_987 dL_law_989 dL_law_992 dL_law_993 dL_law_994 dL_law_995 dL_law_997 dL_law_998 dL_law_999 dL_law_1004 (by decide) hk (fun g => (hv g).2.1) e7 hI e0 K
set_option maxRecDepth 8000 in
set_option maxHeartbeats 4000000 in
theorem L_17 (h : INV μ) (hi : i + 6 ≤ L) (hL : L ≤ 3072) (K : ∀ μ', INV μ' → go 291 20 kc ks (mLaw L xs) Q X 2940 (lLaw i) [] μ') : go 291 20 (kc + 3) (ks + 246) (mLaw L xs) Q X 1007 (lLaw i) [] μ := by
  show go 291 20 (kc + 3) (ks + 246) (mLaw L xs) Q X 1007 [.ref 6000, .ref 0, .ref 276, .ref 289, .ref 290, .int (iI (i : Nat)), .null, .null, .null] [] μ
  refine go_aload_n (y := mLaw L xs) (pc := 1007) dL_law_1007 rfl rfl ?_
  refine go_aload_n (y := mLaw L xs) (pc := 1008) dL_law_1008 rfl rfl ?_
  refine go_iload (y := mLaw L xs) (pc := 1009) dL_law_1009 rfl ?_
  refine go_iconst (y := mLaw L xs) (pc := 1011) dL_law_1011 ?_
  refine go_iadd (y := mLaw L xs) (pc := 1012) dL_law_1012 ?_
  refine go_sld (pc := 1013) (k := i + 1) dL_law_1013 (by omega) (by omega) hL ?_
  refine go_aload_n (y := mLaw L xs) (pc := 1014) dL_law_1014 rfl rfl ?_
  refine go_callSH (y := mLaw L xs) (pc := 1015) (y' := mL_motionState) (as := [.ref 0, .int (iI (xi xs (i + 1))), .ref 289]) (rest := []) (z' := 291) (d' := 17) (kc' := 3) (ks' := 246) (kc2 := kc) (ks2 := ks) dL_law_1015 rfl ml_L_212 ok_L_motionState rfl (by decide) (by intro v hv; simp only [List.mem_cons, List.not_mem_nil, or_false] at hv; rcases hv with rfl | rfl | rfl <;> rfl) (by decide) (Nat.le_refl _) (by decide) (Nat.le_of_eq (Nat.add_comm _ _)) (Nat.le_of_eq (Nat.add_comm _ _)) rfl (mt_mono (T_motionState h (rng_t _)) (fun r μ1 hq => ?_) (fun E μ1 hx => hx.elim))
  obtain ⟨k, v, rfl, hk, hv, hm⟩ := hq
  refine go_istore (y := mLaw L xs) (pc := 1018) dL_law_1018 (by show 6 < 9; decide) ?_
  refine go_aload_n (y := mLaw L xs) (pc := 1020) dL_law_1020 rfl rfl ?_
  refine go_aload_n (y := mLaw L xs) (pc := 1021) dL_law_1021 rfl rfl ?_
  refine go_iload (y := mLaw L xs) (pc := 1022) dL_law_1022 rfl ?_
  refine go_iconst (y := mLaw L xs) (pc := 1024) dL_law_1024 ?_
  refine go_iadd (y := mLaw L xs) (pc := 1025) dL_law_1025 ?_
  refine go_sld (pc := 1026) (k := i + 1) dL_law_1026 (by omega) (by omega) hL ?_
  refine go_callV (y := mLaw L xs) (pc := 1027) (y' := mX11_motionState) (as := [.int (iI (xi xs (i + 1)))]) (b := 276) (rest := []) (z' := 289) (d' := 16) (kc' := 0) (ks' := 0) (kc2 := kc) (ks2 := ks) dL_law_1027 rfl ml_L_214 ok_X11_motionState (show shp 276 = _ from rfl) ⟨_, _, rfl⟩ (by decide) rfl (by decide) (by intro v hv; simp only [List.mem_cons, List.not_mem_nil, or_false] at hv; rcases hv with rfl <;> rfl) (by decide) (by decide) (by decide) (Nat.le_of_eq (Nat.zero_add _)) (Nat.le_of_eq (Nat.zero_add _)) rfl (mt_mono hm (fun r μ2 hq => ?_) (fun E μ2 hx => hx.elim))
  obtain ⟨b, rfl, e7, hI, e0⟩ := hq
  exact tlI (pc := 1030) dL_law_1030 dL_law_1032 dL_law_1033 dL_law_1036 dL_law_1038 dL_law_1043 dL_law_1045 dL_law_1048 dL_law_1049 dL_law_1050 dL_law_1051 dL_law_1053 dL_law_1054 dL_law_1055 dL_law_1060 (by decide) hk (fun g => (hv g).2.1) e7 hI e0 K
set_option maxRecDepth 8000 in
set_option maxHeartbeats 4000000 in
theorem L_18 (h : INV μ) (hi : i + 6 ≤ L) (hL : L ≤ 3072) (K : ∀ μ', INV μ' → go 291 20 kc ks (mLaw L xs) Q X 2940 (lLaw i) [] μ') : go 291 20 (kc + 3) (ks + 246) (mLaw L xs) Q X 1063 (lLaw i) [] μ := by
  show go 291 20 (kc + 3) (ks + 246) (mLaw L xs) Q X 1063 [.ref 6000, .ref 0, .ref 276, .ref 289, .ref 290, .int (iI (i : Nat)), .null, .null, .null] [] μ
  refine go_aload_n (y := mLaw L xs) (pc := 1063) dL_law_1063 rfl rfl ?_
  refine go_aload_n (y := mLaw L xs) (pc := 1064) dL_law_1064 rfl rfl ?_
  refine go_iload (y := mLaw L xs) (pc := 1065) dL_law_1065 rfl ?_
  refine go_iconst (y := mLaw L xs) (pc := 1067) dL_law_1067 ?_
  refine go_iadd (y := mLaw L xs) (pc := 1068) dL_law_1068 ?_
  refine go_sld (pc := 1069) (k := i + 1) dL_law_1069 (by omega) (by omega) hL ?_
  refine go_aload_n (y := mLaw L xs) (pc := 1070) dL_law_1070 rfl rfl ?_
  refine go_callSH (y := mLaw L xs) (pc := 1071) (y' := mL_lather) (as := [.ref 0, .int (iI (xi xs (i + 1))), .ref 289]) (rest := []) (z' := 291) (d' := 17) (kc' := 3) (ks' := 246) (kc2 := kc) (ks2 := ks) dL_law_1071 rfl ml_L_215 ok_L_lather rfl (by decide) (by intro v hv; simp only [List.mem_cons, List.not_mem_nil, or_false] at hv; rcases hv with rfl | rfl | rfl <;> rfl) (by decide) (Nat.le_refl _) (by decide) (Nat.le_of_eq (Nat.add_comm _ _)) (Nat.le_of_eq (Nat.add_comm _ _)) rfl (mt_mono (T_lather h (rng_t _)) (fun r μ1 hq => ?_) (fun E μ1 hx => hx.elim))
  obtain ⟨k, v, rfl, hk, hv, hm⟩ := hq
  refine go_istore (y := mLaw L xs) (pc := 1074) dL_law_1074 (by show 6 < 9; decide) ?_
  refine go_aload_n (y := mLaw L xs) (pc := 1076) dL_law_1076 rfl rfl ?_
  refine go_aload_n (y := mLaw L xs) (pc := 1077) dL_law_1077 rfl rfl ?_
  refine go_iload (y := mLaw L xs) (pc := 1078) dL_law_1078 rfl ?_
  refine go_iconst (y := mLaw L xs) (pc := 1080) dL_law_1080 ?_
  refine go_iadd (y := mLaw L xs) (pc := 1081) dL_law_1081 ?_
  refine go_sld (pc := 1082) (k := i + 1) dL_law_1082 (by omega) (by omega) hL ?_
  refine go_callV (y := mLaw L xs) (pc := 1083) (y' := mX11_lather) (as := [.int (iI (xi xs (i + 1)))]) (b := 276) (rest := []) (z' := 289) (d' := 16) (kc' := 0) (ks' := 0) (kc2 := kc) (ks2 := ks) dL_law_1083 rfl ml_L_217 ok_X11_lather (show shp 276 = _ from rfl) ⟨_, _, rfl⟩ (by decide) rfl (by decide) (by intro v hv; simp only [List.mem_cons, List.not_mem_nil, or_false] at hv; rcases hv with rfl <;> rfl) (by decide) (by decide) (by decide) (Nat.le_of_eq (Nat.zero_add _)) (Nat.le_of_eq (Nat.zero_add _)) rfl (mt_mono hm (fun r μ2 hq => ?_) (fun E μ2 hx => hx.elim))
  obtain ⟨b, rfl, e7, hI, e0⟩ := hq
  exact tlI (pc := 1086) dL_law_1086 dL_law_1088 dL_law_1089 dL_law_1092 dL_law_1094 dL_law_1099 dL_law_1101 dL_law_1104 dL_law_1105 dL_law_1106 dL_law_1107 dL_law_1109 dL_law_1110 dL_law_1111 dL_law_1116 (by decide) hk (fun g => (hv g).2.1) e7 hI e0 K
set_option maxRecDepth 8000 in
set_option maxHeartbeats 4000000 in
theorem L_19 (h : INV μ) (hi : i + 6 ≤ L) (hL : L ≤ 3072) (K : ∀ μ', INV μ' → go 291 20 kc ks (mLaw L xs) Q X 2940 (lLaw i) [] μ') : go 291 20 (kc + 3) (ks + 246) (mLaw L xs) Q X 1119 (lLaw i) [] μ := by
  show go 291 20 (kc + 3) (ks + 246) (mLaw L xs) Q X 1119 [.ref 6000, .ref 0, .ref 276, .ref 289, .ref 290, .int (iI (i : Nat)), .null, .null, .null] [] μ
  refine go_aload_n (y := mLaw L xs) (pc := 1119) dL_law_1119 rfl rfl ?_
  refine go_aload_n (y := mLaw L xs) (pc := 1120) dL_law_1120 rfl rfl ?_
  refine go_iload (y := mLaw L xs) (pc := 1121) dL_law_1121 rfl ?_
  refine go_iconst (y := mLaw L xs) (pc := 1123) dL_law_1123 ?_
  refine go_iadd (y := mLaw L xs) (pc := 1124) dL_law_1124 ?_
  refine go_sld (pc := 1125) (k := i + 1) dL_law_1125 (by omega) (by omega) hL ?_
  refine go_aload_n (y := mLaw L xs) (pc := 1126) dL_law_1126 rfl rfl ?_
  refine go_callSH (y := mLaw L xs) (pc := 1127) (y' := mL_weightFor) (as := [.ref 0, .int (iI (xi xs (i + 1))), .ref 289]) (rest := []) (z' := 291) (d' := 17) (kc' := 3) (ks' := 246) (kc2 := kc) (ks2 := ks) dL_law_1127 rfl ml_L_218 ok_L_weightFor rfl (by decide) (by intro v hv; simp only [List.mem_cons, List.not_mem_nil, or_false] at hv; rcases hv with rfl | rfl | rfl <;> rfl) (by decide) (Nat.le_refl _) (by decide) (Nat.le_of_eq (Nat.add_comm _ _)) (Nat.le_of_eq (Nat.add_comm _ _)) rfl (mt_mono (T_weightFor h (rng_t _)) (fun r μ1 hq => ?_) (fun E μ1 hx => hx.elim))
  obtain ⟨k, v, rfl, hk, hv, hm⟩ := hq
  refine go_istore (y := mLaw L xs) (pc := 1130) dL_law_1130 (by show 6 < 9; decide) ?_
  refine go_aload_n (y := mLaw L xs) (pc := 1132) dL_law_1132 rfl rfl ?_
  refine go_aload_n (y := mLaw L xs) (pc := 1133) dL_law_1133 rfl rfl ?_
  refine go_iload (y := mLaw L xs) (pc := 1134) dL_law_1134 rfl ?_
  refine go_iconst (y := mLaw L xs) (pc := 1136) dL_law_1136 ?_
  refine go_iadd (y := mLaw L xs) (pc := 1137) dL_law_1137 ?_
  refine go_sld (pc := 1138) (k := i + 1) dL_law_1138 (by omega) (by omega) hL ?_
  refine go_callV (y := mLaw L xs) (pc := 1139) (y' := mX11_weightFor) (as := [.int (iI (xi xs (i + 1)))]) (b := 276) (rest := []) (z' := 289) (d' := 16) (kc' := 0) (ks' := 0) (kc2 := kc) (ks2 := ks) dL_law_1139 rfl ml_L_220 ok_X11_weightFor (show shp 276 = _ from rfl) ⟨_, _, rfl⟩ (by decide) rfl (by decide) (by intro v hv; simp only [List.mem_cons, List.not_mem_nil, or_false] at hv; rcases hv with rfl <;> rfl) (by decide) (by decide) (by decide) (Nat.le_of_eq (Nat.zero_add _)) (Nat.le_of_eq (Nat.zero_add _)) rfl (mt_mono hm (fun r μ2 hq => ?_) (fun E μ2 hx => hx.elim))
  obtain ⟨b, rfl, e7, hI, e0⟩ := hq
  exact tlI (pc := 1142) dL_law_1142 dL_law_1144 dL_law_1145 dL_law_1148 dL_law_1150 dL_law_1155 dL_law_1157 dL_law_1160 dL_law_1161 dL_law_1162 dL_law_1163 dL_law_1165 dL_law_1166 dL_law_1167 dL_law_1172 (by decide) hk (fun g => (hv g).2.1) e7 hI e0 K
set_option maxRecDepth 8000 in
set_option maxHeartbeats 4000000 in
theorem L_20 (h : INV μ) (hi : i + 6 ≤ L) (hL : L ≤ 3072) (K : ∀ μ', INV μ' → go 291 20 kc ks (mLaw L xs) Q X 2940 (lLaw i) [] μ') : go 291 20 (kc + 3) (ks + 246) (mLaw L xs) Q X 1175 (lLaw i) [] μ := by
  show go 291 20 (kc + 3) (ks + 246) (mLaw L xs) Q X 1175 [.ref 6000, .ref 0, .ref 276, .ref 289, .ref 290, .int (iI (i : Nat)), .null, .null, .null] [] μ
  refine go_aload_n (y := mLaw L xs) (pc := 1175) dL_law_1175 rfl rfl ?_
  refine go_aload_n (y := mLaw L xs) (pc := 1176) dL_law_1176 rfl rfl ?_
  refine go_iload (y := mLaw L xs) (pc := 1177) dL_law_1177 rfl ?_
  refine go_iconst (y := mLaw L xs) (pc := 1179) dL_law_1179 ?_
  refine go_iadd (y := mLaw L xs) (pc := 1180) dL_law_1180 ?_
  refine go_sld (pc := 1181) (k := i + 1) dL_law_1181 (by omega) (by omega) hL ?_
  refine go_aload_n (y := mLaw L xs) (pc := 1182) dL_law_1182 rfl rfl ?_
  refine go_callSH (y := mLaw L xs) (pc := 1183) (y' := mL_weightAgainst) (as := [.ref 0, .int (iI (xi xs (i + 1))), .ref 289]) (rest := []) (z' := 291) (d' := 17) (kc' := 3) (ks' := 246) (kc2 := kc) (ks2 := ks) dL_law_1183 rfl ml_L_221 ok_L_weightAgainst rfl (by decide) (by intro v hv; simp only [List.mem_cons, List.not_mem_nil, or_false] at hv; rcases hv with rfl | rfl | rfl <;> rfl) (by decide) (Nat.le_refl _) (by decide) (Nat.le_of_eq (Nat.add_comm _ _)) (Nat.le_of_eq (Nat.add_comm _ _)) rfl (mt_mono (T_weightAgainst h (rng_t _)) (fun r μ1 hq => ?_) (fun E μ1 hx => hx.elim))
  obtain ⟨k, v, rfl, hk, hv, hm⟩ := hq
  refine go_istore (y := mLaw L xs) (pc := 1186) dL_law_1186 (by show 6 < 9; decide) ?_
  refine go_aload_n (y := mLaw L xs) (pc := 1188) dL_law_1188 rfl rfl ?_
  refine go_aload_n (y := mLaw L xs) (pc := 1189) dL_law_1189 rfl rfl ?_
  refine go_iload (y := mLaw L xs) (pc := 1190) dL_law_1190 rfl ?_
  refine go_iconst (y := mLaw L xs) (pc := 1192) dL_law_1192 ?_
  refine go_iadd (y := mLaw L xs) (pc := 1193) dL_law_1193 ?_
  refine go_sld (pc := 1194) (k := i + 1) dL_law_1194 (by omega) (by omega) hL ?_
  refine go_callV (y := mLaw L xs) (pc := 1195) (y' := mX11_weightAgainst) (as := [.int (iI (xi xs (i + 1)))]) (b := 276) (rest := []) (z' := 289) (d' := 16) (kc' := 0) (ks' := 0) (kc2 := kc) (ks2 := ks) dL_law_1195 rfl ml_L_223 ok_X11_weightAgainst (show shp 276 = _ from rfl) ⟨_, _, rfl⟩ (by decide) rfl (by decide) (by intro v hv; simp only [List.mem_cons, List.not_mem_nil, or_false] at hv; rcases hv with rfl <;> rfl) (by decide) (by decide) (by decide) (Nat.le_of_eq (Nat.zero_add _)) (Nat.le_of_eq (Nat.zero_add _)) rfl (mt_mono hm (fun r μ2 hq => ?_) (fun E μ2 hx => hx.elim))
  obtain ⟨b, rfl, e7, hI, e0⟩ := hq
  exact tlI (pc := 1198) dL_law_1198 dL_law_1200 dL_law_1201 dL_law_1204 dL_law_1206 dL_law_1211 dL_law_1213 dL_law_1216 dL_law_1217 dL_law_1218 dL_law_1219 dL_law_1221 dL_law_1222 dL_law_1223 dL_law_1228 (by decide) hk (fun g => (hv g).2.1) e7 hI e0 K
set_option maxRecDepth 8000 in
set_option maxHeartbeats 4000000 in
theorem L_21 (h : INV μ) (hi : i + 6 ≤ L) (hL : L ≤ 3072) (K : ∀ μ', INV μ' → go 291 20 kc ks (mLaw L xs) Q X 2940 (lLaw i) [] μ') : go 291 20 (kc + 3) (ks + 246) (mLaw L xs) Q X 1231 (lLaw i) [] μ := by
  show go 291 20 (kc + 3) (ks + 246) (mLaw L xs) Q X 1231 [.ref 6000, .ref 0, .ref 276, .ref 289, .ref 290, .int (iI (i : Nat)), .null, .null, .null] [] μ
  refine go_aload_n (y := mLaw L xs) (pc := 1231) dL_law_1231 rfl rfl ?_
  refine go_aload_n (y := mLaw L xs) (pc := 1232) dL_law_1232 rfl rfl ?_
  refine go_iload (y := mLaw L xs) (pc := 1233) dL_law_1233 rfl ?_
  refine go_iconst (y := mLaw L xs) (pc := 1235) dL_law_1235 ?_
  refine go_iadd (y := mLaw L xs) (pc := 1236) dL_law_1236 ?_
  refine go_sld (pc := 1237) (k := i + 1) dL_law_1237 (by omega) (by omega) hL ?_
  refine go_aload_n (y := mLaw L xs) (pc := 1238) dL_law_1238 rfl rfl ?_
  refine go_callSH (y := mLaw L xs) (pc := 1239) (y' := mL_voterCount) (as := [.ref 0, .int (iI (xi xs (i + 1))), .ref 289]) (rest := []) (z' := 291) (d' := 17) (kc' := 3) (ks' := 246) (kc2 := kc) (ks2 := ks) dL_law_1239 rfl ml_L_224 ok_L_voterCount rfl (by decide) (by intro v hv; simp only [List.mem_cons, List.not_mem_nil, or_false] at hv; rcases hv with rfl | rfl | rfl <;> rfl) (by decide) (Nat.le_refl _) (by decide) (Nat.le_of_eq (Nat.add_comm _ _)) (Nat.le_of_eq (Nat.add_comm _ _)) rfl (mt_mono (T_voterCount h (rng_t _)) (fun r μ1 hq => ?_) (fun E μ1 hx => hx.elim))
  obtain ⟨k, v, rfl, hk, hv, hm⟩ := hq
  refine go_istore (y := mLaw L xs) (pc := 1242) dL_law_1242 (by show 6 < 9; decide) ?_
  refine go_aload_n (y := mLaw L xs) (pc := 1244) dL_law_1244 rfl rfl ?_
  refine go_aload_n (y := mLaw L xs) (pc := 1245) dL_law_1245 rfl rfl ?_
  refine go_iload (y := mLaw L xs) (pc := 1246) dL_law_1246 rfl ?_
  refine go_iconst (y := mLaw L xs) (pc := 1248) dL_law_1248 ?_
  refine go_iadd (y := mLaw L xs) (pc := 1249) dL_law_1249 ?_
  refine go_sld (pc := 1250) (k := i + 1) dL_law_1250 (by omega) (by omega) hL ?_
  refine go_callV (y := mLaw L xs) (pc := 1251) (y' := mX11_voterCount) (as := [.int (iI (xi xs (i + 1)))]) (b := 276) (rest := []) (z' := 289) (d' := 16) (kc' := 0) (ks' := 0) (kc2 := kc) (ks2 := ks) dL_law_1251 rfl ml_L_226 ok_X11_voterCount (show shp 276 = _ from rfl) ⟨_, _, rfl⟩ (by decide) rfl (by decide) (by intro v hv; simp only [List.mem_cons, List.not_mem_nil, or_false] at hv; rcases hv with rfl <;> rfl) (by decide) (by decide) (by decide) (Nat.le_of_eq (Nat.zero_add _)) (Nat.le_of_eq (Nat.zero_add _)) rfl (mt_mono hm (fun r μ2 hq => ?_) (fun E μ2 hx => hx.elim))
  obtain ⟨b, rfl, e7, hI, e0⟩ := hq
  exact tlI (pc := 1254) dL_law_1254 dL_law_1256 dL_law_1257 dL_law_1260 dL_law_1262 dL_law_1267 dL_law_1269 dL_law_1272 dL_law_1273 dL_law_1274 dL_law_1275 dL_law_1277 dL_law_1278 dL_law_1279 dL_law_1284 (by decide) hk (fun g => (hv g).2.1) e7 hI e0 K
set_option maxRecDepth 8000 in
set_option maxHeartbeats 4000000 in
theorem L_22 (h : INV μ) (hi : i + 6 ≤ L) (hL : L ≤ 3072) (K : ∀ μ', INV μ' → go 291 20 kc ks (mLaw L xs) Q X 2940 (lLaw i) [] μ') : go 291 20 (kc + 3) (ks + 246) (mLaw L xs) Q X 1287 (lLaw i) [] μ := by
  show go 291 20 (kc + 3) (ks + 246) (mLaw L xs) Q X 1287 [.ref 6000, .ref 0, .ref 276, .ref 289, .ref 290, .int (iI (i : Nat)), .null, .null, .null] [] μ
  refine go_aload_n (y := mLaw L xs) (pc := 1287) dL_law_1287 rfl rfl ?_
  refine go_aload_n (y := mLaw L xs) (pc := 1288) dL_law_1288 rfl rfl ?_
  refine go_iload (y := mLaw L xs) (pc := 1289) dL_law_1289 rfl ?_
  refine go_iconst (y := mLaw L xs) (pc := 1291) dL_law_1291 ?_
  refine go_iadd (y := mLaw L xs) (pc := 1292) dL_law_1292 ?_
  refine go_sld (pc := 1293) (k := i + 1) dL_law_1293 (by omega) (by omega) hL ?_
  refine go_aload_n (y := mLaw L xs) (pc := 1294) dL_law_1294 rfl rfl ?_
  refine go_callSH (y := mLaw L xs) (pc := 1295) (y' := mL_obstacle) (as := [.ref 0, .int (iI (xi xs (i + 1))), .ref 289]) (rest := []) (z' := 291) (d' := 17) (kc' := 3) (ks' := 246) (kc2 := kc) (ks2 := ks) dL_law_1295 rfl ml_L_227 ok_L_obstacle rfl (by decide) (by intro v hv; simp only [List.mem_cons, List.not_mem_nil, or_false] at hv; rcases hv with rfl | rfl | rfl <;> rfl) (by decide) (Nat.le_refl _) (by decide) (Nat.le_of_eq (Nat.add_comm _ _)) (Nat.le_of_eq (Nat.add_comm _ _)) rfl (mt_mono (T_obstacle h (rng_t _)) (fun r μ1 hq => ?_) (fun E μ1 hx => hx.elim))
  obtain ⟨k, v, rfl, hk, hv, hm⟩ := hq
  refine go_istore (y := mLaw L xs) (pc := 1298) dL_law_1298 (by show 6 < 9; decide) ?_
  refine go_aload_n (y := mLaw L xs) (pc := 1300) dL_law_1300 rfl rfl ?_
  refine go_aload_n (y := mLaw L xs) (pc := 1301) dL_law_1301 rfl rfl ?_
  refine go_iload (y := mLaw L xs) (pc := 1302) dL_law_1302 rfl ?_
  refine go_iconst (y := mLaw L xs) (pc := 1304) dL_law_1304 ?_
  refine go_iadd (y := mLaw L xs) (pc := 1305) dL_law_1305 ?_
  refine go_sld (pc := 1306) (k := i + 1) dL_law_1306 (by omega) (by omega) hL ?_
  refine go_callV (y := mLaw L xs) (pc := 1307) (y' := mX11_obstacle) (as := [.int (iI (xi xs (i + 1)))]) (b := 276) (rest := []) (z' := 289) (d' := 16) (kc' := 0) (ks' := 0) (kc2 := kc) (ks2 := ks) dL_law_1307 rfl ml_L_229 ok_X11_obstacle (show shp 276 = _ from rfl) ⟨_, _, rfl⟩ (by decide) rfl (by decide) (by intro v hv; simp only [List.mem_cons, List.not_mem_nil, or_false] at hv; rcases hv with rfl <;> rfl) (by decide) (by decide) (by decide) (Nat.le_of_eq (Nat.zero_add _)) (Nat.le_of_eq (Nat.zero_add _)) rfl (mt_mono hm (fun r μ2 hq => ?_) (fun E μ2 hx => hx.elim))
  obtain ⟨b, rfl, e7, hI, e0⟩ := hq
  exact tlI (pc := 1310) dL_law_1310 dL_law_1312 dL_law_1313 dL_law_1316 dL_law_1318 dL_law_1323 dL_law_1325 dL_law_1328 dL_law_1329 dL_law_1330 dL_law_1331 dL_law_1333 dL_law_1334 dL_law_1335 dL_law_1340 (by decide) hk (fun g => (hv g).2.1) e7 hI e0 K
set_option maxRecDepth 8000 in
set_option maxHeartbeats 4000000 in
theorem L_23 (h : INV μ) (hi : i + 6 ≤ L) (hL : L ≤ 3072) (K : ∀ μ', INV μ' → go 291 20 kc ks (mLaw L xs) Q X 2940 (lLaw i) [] μ') : go 291 20 (kc + 3) (ks + 246) (mLaw L xs) Q X 1343 (lLaw i) [] μ := by
  show go 291 20 (kc + 3) (ks + 246) (mLaw L xs) Q X 1343 [.ref 6000, .ref 0, .ref 276, .ref 289, .ref 290, .int (iI (i : Nat)), .null, .null, .null] [] μ
  refine go_aload_n (y := mLaw L xs) (pc := 1343) dL_law_1343 rfl rfl ?_
  refine go_aload_n (y := mLaw L xs) (pc := 1344) dL_law_1344 rfl rfl ?_
  refine go_iload (y := mLaw L xs) (pc := 1345) dL_law_1345 rfl ?_
  refine go_iconst (y := mLaw L xs) (pc := 1347) dL_law_1347 ?_
  refine go_iadd (y := mLaw L xs) (pc := 1348) dL_law_1348 ?_
  refine go_sld (pc := 1349) (k := i + 1) dL_law_1349 (by omega) (by omega) hL ?_
  refine go_aload_n (y := mLaw L xs) (pc := 1350) dL_law_1350 rfl rfl ?_
  refine go_callSH (y := mLaw L xs) (pc := 1351) (y' := mL_wouldPass) (as := [.ref 0, .int (iI (xi xs (i + 1))), .ref 289]) (rest := []) (z' := 291) (d' := 17) (kc' := 3) (ks' := 246) (kc2 := kc) (ks2 := ks) dL_law_1351 rfl ml_L_230 ok_L_wouldPass rfl (by decide) (by intro v hv; simp only [List.mem_cons, List.not_mem_nil, or_false] at hv; rcases hv with rfl | rfl | rfl <;> rfl) (by decide) (Nat.le_refl _) (by decide) (Nat.le_of_eq (Nat.add_comm _ _)) (Nat.le_of_eq (Nat.add_comm _ _)) rfl (mt_mono (T_wouldPass h (rng_t _)) (fun r μ1 hq => ?_) (fun E μ1 hx => hx.elim))
  obtain ⟨k, v, rfl, hk, hv, hm⟩ := hq
  refine go_istore (y := mLaw L xs) (pc := 1354) dL_law_1354 (by show 6 < 9; decide) ?_
  refine go_aload_n (y := mLaw L xs) (pc := 1356) dL_law_1356 rfl rfl ?_
  refine go_aload_n (y := mLaw L xs) (pc := 1357) dL_law_1357 rfl rfl ?_
  refine go_iload (y := mLaw L xs) (pc := 1358) dL_law_1358 rfl ?_
  refine go_iconst (y := mLaw L xs) (pc := 1360) dL_law_1360 ?_
  refine go_iadd (y := mLaw L xs) (pc := 1361) dL_law_1361 ?_
  refine go_sld (pc := 1362) (k := i + 1) dL_law_1362 (by omega) (by omega) hL ?_
  refine go_callV (y := mLaw L xs) (pc := 1363) (y' := mX11_wouldPass) (as := [.int (iI (xi xs (i + 1)))]) (b := 276) (rest := []) (z' := 289) (d' := 16) (kc' := 0) (ks' := 0) (kc2 := kc) (ks2 := ks) dL_law_1363 rfl ml_L_232 ok_X11_wouldPass (show shp 276 = _ from rfl) ⟨_, _, rfl⟩ (by decide) rfl (by decide) (by intro v hv; simp only [List.mem_cons, List.not_mem_nil, or_false] at hv; rcases hv with rfl <;> rfl) (by decide) (by decide) (by decide) (Nat.le_of_eq (Nat.zero_add _)) (Nat.le_of_eq (Nat.zero_add _)) rfl (mt_mono hm (fun r μ2 hq => ?_) (fun E μ2 hx => hx.elim))
  obtain ⟨b, rfl, e7, hI, e0⟩ := hq
  exact tlZ (pc := 1366) dL_law_1366 dL_law_1368 dL_law_1369 dL_law_1372 dL_law_1374 dL_law_1379 dL_law_1381 dL_law_1384 dL_law_1385 dL_law_1386 dL_law_1387 dL_law_1389 dL_law_1392 dL_law_1393 dL_law_1396 dL_law_1397 dL_law_1398 dL_law_1403 (by decide) hk (fun g => (hv g).1) e7 hI e0 K
set_option maxRecDepth 8000 in
set_option maxHeartbeats 4000000 in
theorem L_24 (h : INV μ) (hi : i + 6 ≤ L) (hL : L ≤ 3072) (K : ∀ μ', INV μ' → go 291 20 kc ks (mLaw L xs) Q X 2940 (lLaw i) [] μ') : go 291 20 (kc + 3) (ks + 246) (mLaw L xs) Q X 1406 (lLaw i) [] μ := by
  show go 291 20 (kc + 3) (ks + 246) (mLaw L xs) Q X 1406 [.ref 6000, .ref 0, .ref 276, .ref 289, .ref 290, .int (iI (i : Nat)), .null, .null, .null] [] μ
  refine go_aload_n (y := mLaw L xs) (pc := 1406) dL_law_1406 rfl rfl ?_
  refine go_aload_n (y := mLaw L xs) (pc := 1407) dL_law_1407 rfl rfl ?_
  refine go_iload (y := mLaw L xs) (pc := 1408) dL_law_1408 rfl ?_
  refine go_iconst (y := mLaw L xs) (pc := 1410) dL_law_1410 ?_
  refine go_iadd (y := mLaw L xs) (pc := 1411) dL_law_1411 ?_
  refine go_sld (pc := 1412) (k := i + 1) dL_law_1412 (by omega) (by omega) hL ?_
  refine go_aload_n (y := mLaw L xs) (pc := 1413) dL_law_1413 rfl rfl ?_
  refine go_callSH (y := mLaw L xs) (pc := 1414) (y' := mL_decisiveVoter) (as := [.ref 0, .int (iI (xi xs (i + 1))), .ref 289]) (rest := []) (z' := 291) (d' := 17) (kc' := 3) (ks' := 246) (kc2 := kc) (ks2 := ks) dL_law_1414 rfl ml_L_233 ok_L_decisiveVoter rfl (by decide) (by intro v hv; simp only [List.mem_cons, List.not_mem_nil, or_false] at hv; rcases hv with rfl | rfl | rfl <;> rfl) (by decide) (Nat.le_refl _) (by decide) (Nat.le_of_eq (Nat.add_comm _ _)) (Nat.le_of_eq (Nat.add_comm _ _)) rfl (mt_mono (T_decisiveVoter h (rng_t _)) (fun r μ1 hq => ?_) (fun E μ1 hx => hx.elim))
  obtain ⟨k, v, rfl, hk, hv, hm⟩ := hq
  refine go_istore (y := mLaw L xs) (pc := 1417) dL_law_1417 (by show 6 < 9; decide) ?_
  refine go_aload_n (y := mLaw L xs) (pc := 1419) dL_law_1419 rfl rfl ?_
  refine go_aload_n (y := mLaw L xs) (pc := 1420) dL_law_1420 rfl rfl ?_
  refine go_iload (y := mLaw L xs) (pc := 1421) dL_law_1421 rfl ?_
  refine go_iconst (y := mLaw L xs) (pc := 1423) dL_law_1423 ?_
  refine go_iadd (y := mLaw L xs) (pc := 1424) dL_law_1424 ?_
  refine go_sld (pc := 1425) (k := i + 1) dL_law_1425 (by omega) (by omega) hL ?_
  refine go_callV (y := mLaw L xs) (pc := 1426) (y' := mX11_decisiveVoter) (as := [.int (iI (xi xs (i + 1)))]) (b := 276) (rest := []) (z' := 289) (d' := 16) (kc' := 0) (ks' := 0) (kc2 := kc) (ks2 := ks) dL_law_1426 rfl ml_L_235 ok_X11_decisiveVoter (show shp 276 = _ from rfl) ⟨_, _, rfl⟩ (by decide) rfl (by decide) (by intro v hv; simp only [List.mem_cons, List.not_mem_nil, or_false] at hv; rcases hv with rfl <;> rfl) (by decide) (by decide) (by decide) (Nat.le_of_eq (Nat.zero_add _)) (Nat.le_of_eq (Nat.zero_add _)) rfl (mt_mono hm (fun r μ2 hq => ?_) (fun E μ2 hx => hx.elim))
  obtain ⟨b, rfl, e7, hI, e0⟩ := hq
  exact tlI (pc := 1429) dL_law_1429 dL_law_1431 dL_law_1432 dL_law_1435 dL_law_1437 dL_law_1442 dL_law_1444 dL_law_1447 dL_law_1448 dL_law_1449 dL_law_1450 dL_law_1452 dL_law_1453 dL_law_1454 dL_law_1459 (by decide) hk (fun g => (hv g).2.1) e7 hI e0 K
set_option maxRecDepth 8000 in
set_option maxHeartbeats 4000000 in
theorem L_25 (h : INV μ) (hi : i + 6 ≤ L) (hL : L ≤ 3072) (K : ∀ μ', INV μ' → go 291 20 kc ks (mLaw L xs) Q X 2940 (lLaw i) [] μ') : go 291 20 (kc + 3) (ks + 246) (mLaw L xs) Q X 1462 (lLaw i) [] μ := by
  show go 291 20 (kc + 3) (ks + 246) (mLaw L xs) Q X 1462 [.ref 6000, .ref 0, .ref 276, .ref 289, .ref 290, .int (iI (i : Nat)), .null, .null, .null] [] μ
  refine go_aload_n (y := mLaw L xs) (pc := 1462) dL_law_1462 rfl rfl ?_
  refine go_callV (y := mLaw L xs) (pc := 1463) (y' := mX10_chairCount) (as := []) (b := 0) (rest := []) (z' := 276) (d' := 16) (kc' := 3) (ks' := 246) (kc2 := kc) (ks2 := ks) dL_law_1463 rfl ml_L_236 ok_X10_chairCount (show shp 0 = _ from rfl) ⟨_, _, rfl⟩ (by decide) rfl (by decide) (by intro v hv; simp only [List.mem_cons, List.not_mem_nil, or_false] at hv) (by decide) (by decide) (by decide) (Nat.le_of_eq (Nat.add_comm _ _)) (Nat.le_of_eq (Nat.add_comm _ _)) rfl (mt_mono (D_chairCount h ) (fun r μ1 hq => ?_) (fun E μ1 hx => hx.elim))
  obtain ⟨v, rfl, hv, hm⟩ := hq
  refine go_aload_n (y := mLaw L xs) (pc := 1466) dL_law_1466 rfl rfl ?_
  refine go_callV (y := mLaw L xs) (pc := 1467) (y' := mX11_chairCount) (as := []) (b := 276) (rest := [.int (iI v)]) (z' := 289) (d' := 16) (kc' := 0) (ks' := 0) (kc2 := kc) (ks2 := ks) dL_law_1467 rfl ml_L_239 ok_X11_chairCount (show shp 276 = _ from rfl) ⟨_, _, rfl⟩ (by decide) rfl (by decide) (by intro v hv; simp only [List.mem_cons, List.not_mem_nil, or_false] at hv) (by show 1 ≤ 8; decide) (by decide) (by decide) (Nat.le_of_eq (Nat.zero_add _)) (Nat.le_of_eq (Nat.zero_add _)) rfl (mt_mono hm (fun r μ2 hq => ?_) (fun E μ2 hx => hx.elim))
  obtain ⟨rfl, hI⟩ := hq
  exact go_icmp_eq (y := mLaw L xs) (pc := 1470) (tgt := 2940) dL_law_1470 (by decide) hv hv (fun _ => go_fgt 6 (go_fgt 7 (K μ2 hI))) (fun g => absurd rfl g)
set_option maxRecDepth 8000 in
set_option maxHeartbeats 4000000 in
theorem L_26 (h : INV μ) (hi : i + 6 ≤ L) (hL : L ≤ 3072) (K : ∀ μ', INV μ' → go 291 20 kc ks (mLaw L xs) Q X 2940 (lLaw i) [] μ') : go 291 20 (kc + 3) (ks + 246) (mLaw L xs) Q X 1475 (lLaw i) [] μ := by
  show go 291 20 (kc + 3) (ks + 246) (mLaw L xs) Q X 1475 [.ref 6000, .ref 0, .ref 276, .ref 289, .ref 290, .int (iI (i : Nat)), .null, .null, .null] [] μ
  refine go_aload_n (y := mLaw L xs) (pc := 1475) dL_law_1475 rfl rfl ?_
  refine go_callV (y := mLaw L xs) (pc := 1476) (y' := mX10_minute) (as := []) (b := 0) (rest := []) (z' := 276) (d' := 16) (kc' := 3) (ks' := 246) (kc2 := kc) (ks2 := ks) dL_law_1476 rfl ml_L_240 ok_X10_minute (show shp 0 = _ from rfl) ⟨_, _, rfl⟩ (by decide) rfl (by decide) (by intro v hv; simp only [List.mem_cons, List.not_mem_nil, or_false] at hv) (by decide) (by decide) (by decide) (Nat.le_of_eq (Nat.add_comm _ _)) (Nat.le_of_eq (Nat.add_comm _ _)) rfl (mt_mono (D_minute h ) (fun r μ1 hq => ?_) (fun E μ1 hx => hx.elim))
  obtain ⟨v, rfl, hv, hm⟩ := hq
  refine go_aload_n (y := mLaw L xs) (pc := 1479) dL_law_1479 rfl rfl ?_
  refine go_callV (y := mLaw L xs) (pc := 1480) (y' := mX11_minute) (as := []) (b := 276) (rest := [.int (iI v)]) (z' := 289) (d' := 16) (kc' := 0) (ks' := 0) (kc2 := kc) (ks2 := ks) dL_law_1480 rfl ml_L_243 ok_X11_minute (show shp 276 = _ from rfl) ⟨_, _, rfl⟩ (by decide) rfl (by decide) (by intro v hv; simp only [List.mem_cons, List.not_mem_nil, or_false] at hv) (by show 1 ≤ 8; decide) (by decide) (by decide) (Nat.le_of_eq (Nat.zero_add _)) (Nat.le_of_eq (Nat.zero_add _)) rfl (mt_mono hm (fun r μ2 hq => ?_) (fun E μ2 hx => hx.elim))
  obtain ⟨rfl, hI⟩ := hq
  exact go_icmp_eq (y := mLaw L xs) (pc := 1483) (tgt := 2940) dL_law_1483 (by decide) hv hv (fun _ => go_fgt 6 (go_fgt 7 (K μ2 hI))) (fun g => absurd rfl g)
set_option maxRecDepth 8000 in
set_option maxHeartbeats 4000000 in
theorem L_27 (h : INV μ) (hi : i + 6 ≤ L) (hL : L ≤ 3072) (K : ∀ μ', INV μ' → go 291 20 kc ks (mLaw L xs) Q X 2940 (lLaw i) [] μ') : go 291 20 (kc + 3) (ks + 246) (mLaw L xs) Q X 1488 (lLaw i) [] μ := by
  show go 291 20 (kc + 3) (ks + 246) (mLaw L xs) Q X 1488 [.ref 6000, .ref 0, .ref 276, .ref 289, .ref 290, .int (iI (i : Nat)), .null, .null, .null] [] μ
  refine go_aload_n (y := mLaw L xs) (pc := 1488) dL_law_1488 rfl rfl ?_
  refine go_callV (y := mLaw L xs) (pc := 1489) (y' := mX10_freeMirrors) (as := []) (b := 0) (rest := []) (z' := 276) (d' := 16) (kc' := 3) (ks' := 246) (kc2 := kc) (ks2 := ks) dL_law_1489 rfl ml_L_244 ok_X10_freeMirrors (show shp 0 = _ from rfl) ⟨_, _, rfl⟩ (by decide) rfl (by decide) (by intro v hv; simp only [List.mem_cons, List.not_mem_nil, or_false] at hv) (by decide) (by decide) (by decide) (Nat.le_of_eq (Nat.add_comm _ _)) (Nat.le_of_eq (Nat.add_comm _ _)) rfl (mt_mono (D_freeMirrors h ) (fun r μ1 hq => ?_) (fun E μ1 hx => hx.elim))
  obtain ⟨v, rfl, hv, hm⟩ := hq
  refine go_aload_n (y := mLaw L xs) (pc := 1492) dL_law_1492 rfl rfl ?_
  refine go_callV (y := mLaw L xs) (pc := 1493) (y' := mX11_freeMirrors) (as := []) (b := 276) (rest := [.int (iI v)]) (z' := 289) (d' := 16) (kc' := 0) (ks' := 0) (kc2 := kc) (ks2 := ks) dL_law_1493 rfl ml_L_247 ok_X11_freeMirrors (show shp 276 = _ from rfl) ⟨_, _, rfl⟩ (by decide) rfl (by decide) (by intro v hv; simp only [List.mem_cons, List.not_mem_nil, or_false] at hv) (by show 1 ≤ 8; decide) (by decide) (by decide) (Nat.le_of_eq (Nat.zero_add _)) (Nat.le_of_eq (Nat.zero_add _)) rfl (mt_mono hm (fun r μ2 hq => ?_) (fun E μ2 hx => hx.elim))
  obtain ⟨rfl, hI⟩ := hq
  exact go_icmp_eq (y := mLaw L xs) (pc := 1496) (tgt := 2940) dL_law_1496 (by decide) hv hv (fun _ => go_fgt 6 (go_fgt 7 (K μ2 hI))) (fun g => absurd rfl g)
set_option maxRecDepth 8000 in
set_option maxHeartbeats 4000000 in
theorem L_28 (h : INV μ) (hi : i + 6 ≤ L) (hL : L ≤ 3072) (K : ∀ μ', INV μ' → go 291 20 kc ks (mLaw L xs) Q X 2940 (lLaw i) [] μ') : go 291 20 (kc + 3) (ks + 246) (mLaw L xs) Q X 1501 (lLaw i) [] μ := by
  show go 291 20 (kc + 3) (ks + 246) (mLaw L xs) Q X 1501 [.ref 6000, .ref 0, .ref 276, .ref 289, .ref 290, .int (iI (i : Nat)), .null, .null, .null] [] μ
  refine go_aload_n (y := mLaw L xs) (pc := 1501) dL_law_1501 rfl rfl ?_
  refine go_callV (y := mLaw L xs) (pc := 1502) (y' := mX10_ranking) (as := []) (b := 0) (rest := []) (z' := 276) (d' := 16) (kc' := 3) (ks' := 246) (kc2 := kc) (ks2 := ks) dL_law_1502 rfl ml_L_248 ok_X10_ranking (show shp 0 = _ from rfl) ⟨_, _, rfl⟩ (by decide) rfl (by decide) (by intro v hv; simp only [List.mem_cons, List.not_mem_nil, or_false] at hv) (by decide) (by decide) (by decide) (Nat.le_of_eq (Nat.add_comm _ _)) (Nat.le_of_eq (Nat.add_comm _ _)) rfl (mt_mono (D_ranking h ) (fun r μ1 hq => ?_) (fun E μ1 hx => hx.elim))
  obtain ⟨v, rfl, hv, hm⟩ := hq
  refine go_aload_n (y := mLaw L xs) (pc := 1505) dL_law_1505 rfl rfl ?_
  refine go_callV (y := mLaw L xs) (pc := 1506) (y' := mX11_ranking) (as := []) (b := 276) (rest := [.int (iI v)]) (z' := 289) (d' := 16) (kc' := 0) (ks' := 0) (kc2 := kc) (ks2 := ks) dL_law_1506 rfl ml_L_251 ok_X11_ranking (show shp 276 = _ from rfl) ⟨_, _, rfl⟩ (by decide) rfl (by decide) (by intro v hv; simp only [List.mem_cons, List.not_mem_nil, or_false] at hv) (by show 1 ≤ 8; decide) (by decide) (by decide) (Nat.le_of_eq (Nat.zero_add _)) (Nat.le_of_eq (Nat.zero_add _)) rfl (mt_mono hm (fun r μ2 hq => ?_) (fun E μ2 hx => hx.elim))
  obtain ⟨rfl, hI⟩ := hq
  exact go_icmp_eq (y := mLaw L xs) (pc := 1509) (tgt := 2940) dL_law_1509 (by decide) hv hv (fun _ => go_fgt 6 (go_fgt 7 (K μ2 hI))) (fun g => absurd rfl g)
set_option maxRecDepth 8000 in
set_option maxHeartbeats 4000000 in
theorem L_29 (h : INV μ) (hi : i + 6 ≤ L) (hL : L ≤ 3072) (K : ∀ μ', INV μ' → go 291 20 kc ks (mLaw L xs) Q X 2940 (lLaw i) [] μ') : go 291 20 (kc + 3) (ks + 246) (mLaw L xs) Q X 1514 (lLaw i) [] μ := by
  show go 291 20 (kc + 3) (ks + 246) (mLaw L xs) Q X 1514 [.ref 6000, .ref 0, .ref 276, .ref 289, .ref 290, .int (iI (i : Nat)), .null, .null, .null] [] μ
  refine go_aload_n (y := mLaw L xs) (pc := 1514) dL_law_1514 rfl rfl ?_
  refine go_callV (y := mLaw L xs) (pc := 1515) (y' := mX10_requestCount) (as := []) (b := 0) (rest := []) (z' := 276) (d' := 16) (kc' := 3) (ks' := 246) (kc2 := kc) (ks2 := ks) dL_law_1515 rfl ml_L_252 ok_X10_requestCount (show shp 0 = _ from rfl) ⟨_, _, rfl⟩ (by decide) rfl (by decide) (by intro v hv; simp only [List.mem_cons, List.not_mem_nil, or_false] at hv) (by decide) (by decide) (by decide) (Nat.le_of_eq (Nat.add_comm _ _)) (Nat.le_of_eq (Nat.add_comm _ _)) rfl (mt_mono (D_requestCount h ) (fun r μ1 hq => ?_) (fun E μ1 hx => hx.elim))
  obtain ⟨v, rfl, hv, hm⟩ := hq
  refine go_aload_n (y := mLaw L xs) (pc := 1518) dL_law_1518 rfl rfl ?_
  refine go_callV (y := mLaw L xs) (pc := 1519) (y' := mX11_requestCount) (as := []) (b := 276) (rest := [.int (iI v)]) (z' := 289) (d' := 16) (kc' := 0) (ks' := 0) (kc2 := kc) (ks2 := ks) dL_law_1519 rfl ml_L_255 ok_X11_requestCount (show shp 276 = _ from rfl) ⟨_, _, rfl⟩ (by decide) rfl (by decide) (by intro v hv; simp only [List.mem_cons, List.not_mem_nil, or_false] at hv) (by show 1 ≤ 8; decide) (by decide) (by decide) (Nat.le_of_eq (Nat.zero_add _)) (Nat.le_of_eq (Nat.zero_add _)) rfl (mt_mono hm (fun r μ2 hq => ?_) (fun E μ2 hx => hx.elim))
  obtain ⟨rfl, hI⟩ := hq
  exact go_icmp_eq (y := mLaw L xs) (pc := 1522) (tgt := 2940) dL_law_1522 (by decide) hv hv (fun _ => go_fgt 6 (go_fgt 7 (K μ2 hI))) (fun g => absurd rfl g)
set_option maxRecDepth 8000 in
set_option maxHeartbeats 4000000 in
theorem L_30 (h : INV μ) (hi : i + 6 ≤ L) (hL : L ≤ 3072) (K : ∀ μ', INV μ' → go 291 20 kc ks (mLaw L xs) Q X 2940 (lLaw i) [] μ') : go 291 20 (kc + 3) (ks + 246) (mLaw L xs) Q X 1527 (lLaw i) [] μ := by
  show go 291 20 (kc + 3) (ks + 246) (mLaw L xs) Q X 1527 [.ref 6000, .ref 0, .ref 276, .ref 289, .ref 290, .int (iI (i : Nat)), .null, .null, .null] [] μ
  refine go_aload_n (y := mLaw L xs) (pc := 1527) dL_law_1527 rfl rfl ?_
  refine go_aload_n (y := mLaw L xs) (pc := 1528) dL_law_1528 rfl rfl ?_
  refine go_iload (y := mLaw L xs) (pc := 1529) dL_law_1529 rfl ?_
  refine go_iconst (y := mLaw L xs) (pc := 1531) dL_law_1531 ?_
  refine go_iadd (y := mLaw L xs) (pc := 1532) dL_law_1532 ?_
  refine go_sld (pc := 1533) (k := i + 1) dL_law_1533 (by omega) (by omega) hL ?_
  refine go_aload_n (y := mLaw L xs) (pc := 1534) dL_law_1534 rfl rfl ?_
  refine go_callSH (y := mLaw L xs) (pc := 1535) (y' := mL_speaker) (as := [.ref 0, .int (iI (xi xs (i + 1))), .ref 289]) (rest := []) (z' := 291) (d' := 17) (kc' := 3) (ks' := 246) (kc2 := kc) (ks2 := ks) dL_law_1535 rfl ml_L_256 ok_L_speaker rfl (by decide) (by intro v hv; simp only [List.mem_cons, List.not_mem_nil, or_false] at hv; rcases hv with rfl | rfl | rfl <;> rfl) (by decide) (Nat.le_refl _) (by decide) (Nat.le_of_eq (Nat.add_comm _ _)) (Nat.le_of_eq (Nat.add_comm _ _)) rfl (mt_mono (T_speaker h (rng_t _)) (fun r μ1 hq => ?_) (fun E μ1 hx => hx.elim))
  obtain ⟨k, v, rfl, hk, hv, hm⟩ := hq
  refine go_istore (y := mLaw L xs) (pc := 1538) dL_law_1538 (by show 6 < 9; decide) ?_
  refine go_aload_n (y := mLaw L xs) (pc := 1540) dL_law_1540 rfl rfl ?_
  refine go_aload_n (y := mLaw L xs) (pc := 1541) dL_law_1541 rfl rfl ?_
  refine go_iload (y := mLaw L xs) (pc := 1542) dL_law_1542 rfl ?_
  refine go_iconst (y := mLaw L xs) (pc := 1544) dL_law_1544 ?_
  refine go_iadd (y := mLaw L xs) (pc := 1545) dL_law_1545 ?_
  refine go_sld (pc := 1546) (k := i + 1) dL_law_1546 (by omega) (by omega) hL ?_
  refine go_callV (y := mLaw L xs) (pc := 1547) (y' := mX11_speaker) (as := [.int (iI (xi xs (i + 1)))]) (b := 276) (rest := []) (z' := 289) (d' := 16) (kc' := 0) (ks' := 0) (kc2 := kc) (ks2 := ks) dL_law_1547 rfl ml_L_258 ok_X11_speaker (show shp 276 = _ from rfl) ⟨_, _, rfl⟩ (by decide) rfl (by decide) (by intro v hv; simp only [List.mem_cons, List.not_mem_nil, or_false] at hv; rcases hv with rfl <;> rfl) (by decide) (by decide) (by decide) (Nat.le_of_eq (Nat.zero_add _)) (Nat.le_of_eq (Nat.zero_add _)) rfl (mt_mono hm (fun r μ2 hq => ?_) (fun E μ2 hx => hx.elim))
  obtain ⟨b, rfl, e7, hI, e0⟩ := hq
  exact tlI (pc := 1550) dL_law_1550 dL_law_1552 dL_law_1553 dL_law_1556 dL_law_1558 dL_law_1563 dL_law_1565 dL_law_1568 dL_law_1569 dL_law_1570 dL_law_1571 dL_law_1573 dL_law_1574 dL_law_1575 dL_law_1580 (by decide) hk (fun g => (hv g).2.1) e7 hI e0 K
set_option maxRecDepth 8000 in
set_option maxHeartbeats 4000000 in
theorem L_31 (h : INV μ) (hi : i + 6 ≤ L) (hL : L ≤ 3072) (K : ∀ μ', INV μ' → go 291 20 kc ks (mLaw L xs) Q X 2940 (lLaw i) [] μ') : go 291 20 (kc + 3) (ks + 246) (mLaw L xs) Q X 1583 (lLaw i) [] μ := by
  show go 291 20 (kc + 3) (ks + 246) (mLaw L xs) Q X 1583 [.ref 6000, .ref 0, .ref 276, .ref 289, .ref 290, .int (iI (i : Nat)), .null, .null, .null] [] μ
  refine go_aload_n (y := mLaw L xs) (pc := 1583) dL_law_1583 rfl rfl ?_
  refine go_aload_n (y := mLaw L xs) (pc := 1584) dL_law_1584 rfl rfl ?_
  refine go_iload (y := mLaw L xs) (pc := 1585) dL_law_1585 rfl ?_
  refine go_iconst (y := mLaw L xs) (pc := 1587) dL_law_1587 ?_
  refine go_iadd (y := mLaw L xs) (pc := 1588) dL_law_1588 ?_
  refine go_sld (pc := 1589) (k := i + 1) dL_law_1589 (by omega) (by omega) hL ?_
  refine go_aload_n (y := mLaw L xs) (pc := 1590) dL_law_1590 rfl rfl ?_
  refine go_callSH (y := mLaw L xs) (pc := 1591) (y' := mL_speechMotion) (as := [.ref 0, .int (iI (xi xs (i + 1))), .ref 289]) (rest := []) (z' := 291) (d' := 17) (kc' := 3) (ks' := 246) (kc2 := kc) (ks2 := ks) dL_law_1591 rfl ml_L_259 ok_L_speechMotion rfl (by decide) (by intro v hv; simp only [List.mem_cons, List.not_mem_nil, or_false] at hv; rcases hv with rfl | rfl | rfl <;> rfl) (by decide) (Nat.le_refl _) (by decide) (Nat.le_of_eq (Nat.add_comm _ _)) (Nat.le_of_eq (Nat.add_comm _ _)) rfl (mt_mono (T_speechMotion h (rng_t _)) (fun r μ1 hq => ?_) (fun E μ1 hx => hx.elim))
  obtain ⟨k, v, rfl, hk, hv, hm⟩ := hq
  refine go_istore (y := mLaw L xs) (pc := 1594) dL_law_1594 (by show 6 < 9; decide) ?_
  refine go_aload_n (y := mLaw L xs) (pc := 1596) dL_law_1596 rfl rfl ?_
  refine go_aload_n (y := mLaw L xs) (pc := 1597) dL_law_1597 rfl rfl ?_
  refine go_iload (y := mLaw L xs) (pc := 1598) dL_law_1598 rfl ?_
  refine go_iconst (y := mLaw L xs) (pc := 1600) dL_law_1600 ?_
  refine go_iadd (y := mLaw L xs) (pc := 1601) dL_law_1601 ?_
  refine go_sld (pc := 1602) (k := i + 1) dL_law_1602 (by omega) (by omega) hL ?_
  refine go_callV (y := mLaw L xs) (pc := 1603) (y' := mX11_speechMotion) (as := [.int (iI (xi xs (i + 1)))]) (b := 276) (rest := []) (z' := 289) (d' := 16) (kc' := 0) (ks' := 0) (kc2 := kc) (ks2 := ks) dL_law_1603 rfl ml_L_261 ok_X11_speechMotion (show shp 276 = _ from rfl) ⟨_, _, rfl⟩ (by decide) rfl (by decide) (by intro v hv; simp only [List.mem_cons, List.not_mem_nil, or_false] at hv; rcases hv with rfl <;> rfl) (by decide) (by decide) (by decide) (Nat.le_of_eq (Nat.zero_add _)) (Nat.le_of_eq (Nat.zero_add _)) rfl (mt_mono hm (fun r μ2 hq => ?_) (fun E μ2 hx => hx.elim))
  obtain ⟨b, rfl, e7, hI, e0⟩ := hq
  exact tlI (pc := 1606) dL_law_1606 dL_law_1608 dL_law_1609 dL_law_1612 dL_law_1614 dL_law_1619 dL_law_1621 dL_law_1624 dL_law_1625 dL_law_1626 dL_law_1627 dL_law_1629 dL_law_1630 dL_law_1631 dL_law_1636 (by decide) hk (fun g => (hv g).2.1) e7 hI e0 K
set_option maxRecDepth 8000 in
set_option maxHeartbeats 4000000 in
theorem L_32 (h : INV μ) (hi : i + 6 ≤ L) (hL : L ≤ 3072) (K : ∀ μ', INV μ' → go 291 20 kc ks (mLaw L xs) Q X 2940 (lLaw i) [] μ') : go 291 20 (kc + 3) (ks + 246) (mLaw L xs) Q X 1639 (lLaw i) [] μ := by
  show go 291 20 (kc + 3) (ks + 246) (mLaw L xs) Q X 1639 [.ref 6000, .ref 0, .ref 276, .ref 289, .ref 290, .int (iI (i : Nat)), .null, .null, .null] [] μ
  refine go_aload_n (y := mLaw L xs) (pc := 1639) dL_law_1639 rfl rfl ?_
  refine go_aload_n (y := mLaw L xs) (pc := 1640) dL_law_1640 rfl rfl ?_
  refine go_iload (y := mLaw L xs) (pc := 1641) dL_law_1641 rfl ?_
  refine go_iconst (y := mLaw L xs) (pc := 1643) dL_law_1643 ?_
  refine go_iadd (y := mLaw L xs) (pc := 1644) dL_law_1644 ?_
  refine go_sld (pc := 1645) (k := i + 1) dL_law_1645 (by omega) (by omega) hL ?_
  refine go_aload_n (y := mLaw L xs) (pc := 1646) dL_law_1646 rfl rfl ?_
  refine go_callSH (y := mLaw L xs) (pc := 1647) (y' := mL_remainingTime) (as := [.ref 0, .int (iI (xi xs (i + 1))), .ref 289]) (rest := []) (z' := 291) (d' := 17) (kc' := 3) (ks' := 246) (kc2 := kc) (ks2 := ks) dL_law_1647 rfl ml_L_262 ok_L_remainingTime rfl (by decide) (by intro v hv; simp only [List.mem_cons, List.not_mem_nil, or_false] at hv; rcases hv with rfl | rfl | rfl <;> rfl) (by decide) (Nat.le_refl _) (by decide) (Nat.le_of_eq (Nat.add_comm _ _)) (Nat.le_of_eq (Nat.add_comm _ _)) rfl (mt_mono (T_remainingTime h (rng_t _)) (fun r μ1 hq => ?_) (fun E μ1 hx => hx.elim))
  obtain ⟨k, v, rfl, hk, hv, hm⟩ := hq
  refine go_istore (y := mLaw L xs) (pc := 1650) dL_law_1650 (by show 6 < 9; decide) ?_
  refine go_aload_n (y := mLaw L xs) (pc := 1652) dL_law_1652 rfl rfl ?_
  refine go_aload_n (y := mLaw L xs) (pc := 1653) dL_law_1653 rfl rfl ?_
  refine go_iload (y := mLaw L xs) (pc := 1654) dL_law_1654 rfl ?_
  refine go_iconst (y := mLaw L xs) (pc := 1656) dL_law_1656 ?_
  refine go_iadd (y := mLaw L xs) (pc := 1657) dL_law_1657 ?_
  refine go_sld (pc := 1658) (k := i + 1) dL_law_1658 (by omega) (by omega) hL ?_
  refine go_callV (y := mLaw L xs) (pc := 1659) (y' := mX11_remainingTime) (as := [.int (iI (xi xs (i + 1)))]) (b := 276) (rest := []) (z' := 289) (d' := 16) (kc' := 0) (ks' := 0) (kc2 := kc) (ks2 := ks) dL_law_1659 rfl ml_L_264 ok_X11_remainingTime (show shp 276 = _ from rfl) ⟨_, _, rfl⟩ (by decide) rfl (by decide) (by intro v hv; simp only [List.mem_cons, List.not_mem_nil, or_false] at hv; rcases hv with rfl <;> rfl) (by decide) (by decide) (by decide) (Nat.le_of_eq (Nat.zero_add _)) (Nat.le_of_eq (Nat.zero_add _)) rfl (mt_mono hm (fun r μ2 hq => ?_) (fun E μ2 hx => hx.elim))
  obtain ⟨b, rfl, e7, hI, e0⟩ := hq
  exact tlI (pc := 1662) dL_law_1662 dL_law_1664 dL_law_1665 dL_law_1668 dL_law_1670 dL_law_1675 dL_law_1677 dL_law_1680 dL_law_1681 dL_law_1682 dL_law_1683 dL_law_1685 dL_law_1686 dL_law_1687 dL_law_1692 (by decide) hk (fun g => (hv g).2.1) e7 hI e0 K
set_option maxRecDepth 8000 in
set_option maxHeartbeats 4000000 in
theorem L_33 (h : INV μ) (hi : i + 6 ≤ L) (hL : L ≤ 3072) (K : ∀ μ', INV μ' → go 291 20 kc ks (mLaw L xs) Q X 2940 (lLaw i) [] μ') : go 291 20 (kc + 3) (ks + 246) (mLaw L xs) Q X 1695 (lLaw i) [] μ := by
  show go 291 20 (kc + 3) (ks + 246) (mLaw L xs) Q X 1695 [.ref 6000, .ref 0, .ref 276, .ref 289, .ref 290, .int (iI (i : Nat)), .null, .null, .null] [] μ
  refine go_aload_n (y := mLaw L xs) (pc := 1695) dL_law_1695 rfl rfl ?_
  refine go_aload_n (y := mLaw L xs) (pc := 1696) dL_law_1696 rfl rfl ?_
  refine go_iload (y := mLaw L xs) (pc := 1697) dL_law_1697 rfl ?_
  refine go_iconst (y := mLaw L xs) (pc := 1699) dL_law_1699 ?_
  refine go_iadd (y := mLaw L xs) (pc := 1700) dL_law_1700 ?_
  refine go_sld (pc := 1701) (k := i + 1) dL_law_1701 (by omega) (by omega) hL ?_
  refine go_aload_n (y := mLaw L xs) (pc := 1702) dL_law_1702 rfl rfl ?_
  refine go_callSH (y := mLaw L xs) (pc := 1703) (y' := mL_isRebutted) (as := [.ref 0, .int (iI (xi xs (i + 1))), .ref 289]) (rest := []) (z' := 291) (d' := 17) (kc' := 3) (ks' := 246) (kc2 := kc) (ks2 := ks) dL_law_1703 rfl ml_L_265 ok_L_isRebutted rfl (by decide) (by intro v hv; simp only [List.mem_cons, List.not_mem_nil, or_false] at hv; rcases hv with rfl | rfl | rfl <;> rfl) (by decide) (Nat.le_refl _) (by decide) (Nat.le_of_eq (Nat.add_comm _ _)) (Nat.le_of_eq (Nat.add_comm _ _)) rfl (mt_mono (T_isRebutted h (rng_t _)) (fun r μ1 hq => ?_) (fun E μ1 hx => hx.elim))
  obtain ⟨k, v, rfl, hk, hv, hm⟩ := hq
  refine go_istore (y := mLaw L xs) (pc := 1706) dL_law_1706 (by show 6 < 9; decide) ?_
  refine go_aload_n (y := mLaw L xs) (pc := 1708) dL_law_1708 rfl rfl ?_
  refine go_aload_n (y := mLaw L xs) (pc := 1709) dL_law_1709 rfl rfl ?_
  refine go_iload (y := mLaw L xs) (pc := 1710) dL_law_1710 rfl ?_
  refine go_iconst (y := mLaw L xs) (pc := 1712) dL_law_1712 ?_
  refine go_iadd (y := mLaw L xs) (pc := 1713) dL_law_1713 ?_
  refine go_sld (pc := 1714) (k := i + 1) dL_law_1714 (by omega) (by omega) hL ?_
  refine go_callV (y := mLaw L xs) (pc := 1715) (y' := mX11_isRebutted) (as := [.int (iI (xi xs (i + 1)))]) (b := 276) (rest := []) (z' := 289) (d' := 16) (kc' := 0) (ks' := 0) (kc2 := kc) (ks2 := ks) dL_law_1715 rfl ml_L_267 ok_X11_isRebutted (show shp 276 = _ from rfl) ⟨_, _, rfl⟩ (by decide) rfl (by decide) (by intro v hv; simp only [List.mem_cons, List.not_mem_nil, or_false] at hv; rcases hv with rfl <;> rfl) (by decide) (by decide) (by decide) (Nat.le_of_eq (Nat.zero_add _)) (Nat.le_of_eq (Nat.zero_add _)) rfl (mt_mono hm (fun r μ2 hq => ?_) (fun E μ2 hx => hx.elim))
  obtain ⟨b, rfl, e7, hI, e0⟩ := hq
  exact tlZ (pc := 1718) dL_law_1718 dL_law_1720 dL_law_1721 dL_law_1724 dL_law_1726 dL_law_1731 dL_law_1733 dL_law_1736 dL_law_1737 dL_law_1738 dL_law_1739 dL_law_1741 dL_law_1744 dL_law_1745 dL_law_1748 dL_law_1749 dL_law_1750 dL_law_1755 (by decide) hk (fun g => (hv g).1) e7 hI e0 K
set_option maxRecDepth 8000 in
set_option maxHeartbeats 4000000 in
theorem L_34 (h : INV μ) (hi : i + 6 ≤ L) (hL : L ≤ 3072) (K : ∀ μ', INV μ' → go 291 20 kc ks (mLaw L xs) Q X 2940 (lLaw i) [] μ') : go 291 20 (kc + 3) (ks + 246) (mLaw L xs) Q X 1758 (lLaw i) [] μ := by
  show go 291 20 (kc + 3) (ks + 246) (mLaw L xs) Q X 1758 [.ref 6000, .ref 0, .ref 276, .ref 289, .ref 290, .int (iI (i : Nat)), .null, .null, .null] [] μ
  refine go_aload_n (y := mLaw L xs) (pc := 1758) dL_law_1758 rfl rfl ?_
  refine go_aload_n (y := mLaw L xs) (pc := 1759) dL_law_1759 rfl rfl ?_
  refine go_iload (y := mLaw L xs) (pc := 1760) dL_law_1760 rfl ?_
  refine go_iconst (y := mLaw L xs) (pc := 1762) dL_law_1762 ?_
  refine go_iadd (y := mLaw L xs) (pc := 1763) dL_law_1763 ?_
  refine go_sld (pc := 1764) (k := i + 1) dL_law_1764 (by omega) (by omega) hL ?_
  refine go_aload_n (y := mLaw L xs) (pc := 1765) dL_law_1765 rfl rfl ?_
  refine go_callSH (y := mLaw L xs) (pc := 1766) (y' := mL_firstBy) (as := [.ref 0, .int (iI (xi xs (i + 1))), .ref 289]) (rest := []) (z' := 291) (d' := 17) (kc' := 3) (ks' := 246) (kc2 := kc) (ks2 := ks) dL_law_1766 rfl ml_L_268 ok_L_firstBy rfl (by decide) (by intro v hv; simp only [List.mem_cons, List.not_mem_nil, or_false] at hv; rcases hv with rfl | rfl | rfl <;> rfl) (by decide) (Nat.le_refl _) (by decide) (Nat.le_of_eq (Nat.add_comm _ _)) (Nat.le_of_eq (Nat.add_comm _ _)) rfl (mt_mono (T_firstBy h (rng_t _)) (fun r μ1 hq => ?_) (fun E μ1 hx => hx.elim))
  obtain ⟨k, v, rfl, hk, hv, hm⟩ := hq
  refine go_istore (y := mLaw L xs) (pc := 1769) dL_law_1769 (by show 6 < 9; decide) ?_
  refine go_aload_n (y := mLaw L xs) (pc := 1771) dL_law_1771 rfl rfl ?_
  refine go_aload_n (y := mLaw L xs) (pc := 1772) dL_law_1772 rfl rfl ?_
  refine go_iload (y := mLaw L xs) (pc := 1773) dL_law_1773 rfl ?_
  refine go_iconst (y := mLaw L xs) (pc := 1775) dL_law_1775 ?_
  refine go_iadd (y := mLaw L xs) (pc := 1776) dL_law_1776 ?_
  refine go_sld (pc := 1777) (k := i + 1) dL_law_1777 (by omega) (by omega) hL ?_
  refine go_callV (y := mLaw L xs) (pc := 1778) (y' := mX11_firstBy) (as := [.int (iI (xi xs (i + 1)))]) (b := 276) (rest := []) (z' := 289) (d' := 16) (kc' := 0) (ks' := 0) (kc2 := kc) (ks2 := ks) dL_law_1778 rfl ml_L_270 ok_X11_firstBy (show shp 276 = _ from rfl) ⟨_, _, rfl⟩ (by decide) rfl (by decide) (by intro v hv; simp only [List.mem_cons, List.not_mem_nil, or_false] at hv; rcases hv with rfl <;> rfl) (by decide) (by decide) (by decide) (Nat.le_of_eq (Nat.zero_add _)) (Nat.le_of_eq (Nat.zero_add _)) rfl (mt_mono hm (fun r μ2 hq => ?_) (fun E μ2 hx => hx.elim))
  obtain ⟨b, rfl, e7, hI, e0⟩ := hq
  exact tlI (pc := 1781) dL_law_1781 dL_law_1783 dL_law_1784 dL_law_1787 dL_law_1789 dL_law_1794 dL_law_1796 dL_law_1799 dL_law_1800 dL_law_1801 dL_law_1802 dL_law_1804 dL_law_1805 dL_law_1806 dL_law_1811 (by decide) hk (fun g => (hv g).2.1) e7 hI e0 K
set_option maxRecDepth 8000 in
set_option maxHeartbeats 4000000 in
theorem L_35 (h : INV μ) (hi : i + 6 ≤ L) (hL : L ≤ 3072) (K : ∀ μ', INV μ' → go 291 20 kc ks (mLaw L xs) Q X 2940 (lLaw i) [] μ') : go 291 20 (kc + 3) (ks + 246) (mLaw L xs) Q X 1814 (lLaw i) [] μ := by
  show go 291 20 (kc + 3) (ks + 246) (mLaw L xs) Q X 1814 [.ref 6000, .ref 0, .ref 276, .ref 289, .ref 290, .int (iI (i : Nat)), .null, .null, .null] [] μ
  refine go_aload_n (y := mLaw L xs) (pc := 1814) dL_law_1814 rfl rfl ?_
  refine go_callV (y := mLaw L xs) (pc := 1815) (y' := mX10_tips) (as := []) (b := 0) (rest := []) (z' := 276) (d' := 16) (kc' := 3) (ks' := 246) (kc2 := kc) (ks2 := ks) dL_law_1815 rfl ml_L_271 ok_X10_tips (show shp 0 = _ from rfl) ⟨_, _, rfl⟩ (by decide) rfl (by decide) (by intro v hv; simp only [List.mem_cons, List.not_mem_nil, or_false] at hv) (by decide) (by decide) (by decide) (Nat.le_of_eq (Nat.add_comm _ _)) (Nat.le_of_eq (Nat.add_comm _ _)) rfl (mt_mono (D_tips h ) (fun r μ1 hq => ?_) (fun E μ1 hx => hx.elim))
  obtain ⟨v, rfl, hv, hm⟩ := hq
  refine go_aload_n (y := mLaw L xs) (pc := 1818) dL_law_1818 rfl rfl ?_
  refine go_callV (y := mLaw L xs) (pc := 1819) (y' := mX11_tips) (as := []) (b := 276) (rest := [.int (iI v)]) (z' := 289) (d' := 16) (kc' := 0) (ks' := 0) (kc2 := kc) (ks2 := ks) dL_law_1819 rfl ml_L_274 ok_X11_tips (show shp 276 = _ from rfl) ⟨_, _, rfl⟩ (by decide) rfl (by decide) (by intro v hv; simp only [List.mem_cons, List.not_mem_nil, or_false] at hv) (by show 1 ≤ 8; decide) (by decide) (by decide) (Nat.le_of_eq (Nat.zero_add _)) (Nat.le_of_eq (Nat.zero_add _)) rfl (mt_mono hm (fun r μ2 hq => ?_) (fun E μ2 hx => hx.elim))
  obtain ⟨rfl, hI⟩ := hq
  exact go_icmp_eq (y := mLaw L xs) (pc := 1822) (tgt := 2940) dL_law_1822 (by decide) hv hv (fun _ => go_fgt 6 (go_fgt 7 (K μ2 hI))) (fun g => absurd rfl g)
set_option maxRecDepth 8000 in
set_option maxHeartbeats 4000000 in
theorem L_36 (h : INV μ) (hi : i + 6 ≤ L) (hL : L ≤ 3072) (K : ∀ μ', INV μ' → go 291 20 kc ks (mLaw L xs) Q X 2940 (lLaw i) [] μ') : go 291 20 (kc + 3) (ks + 246) (mLaw L xs) Q X 1827 (lLaw i) [] μ := by
  show go 291 20 (kc + 3) (ks + 246) (mLaw L xs) Q X 1827 [.ref 6000, .ref 0, .ref 276, .ref 289, .ref 290, .int (iI (i : Nat)), .null, .null, .null] [] μ
  refine go_aload_n (y := mLaw L xs) (pc := 1827) dL_law_1827 rfl rfl ?_
  refine go_callV (y := mLaw L xs) (pc := 1828) (y' := mX10_voteCount) (as := []) (b := 0) (rest := []) (z' := 276) (d' := 16) (kc' := 3) (ks' := 246) (kc2 := kc) (ks2 := ks) dL_law_1828 rfl ml_L_275 ok_X10_voteCount (show shp 0 = _ from rfl) ⟨_, _, rfl⟩ (by decide) rfl (by decide) (by intro v hv; simp only [List.mem_cons, List.not_mem_nil, or_false] at hv) (by decide) (by decide) (by decide) (Nat.le_of_eq (Nat.add_comm _ _)) (Nat.le_of_eq (Nat.add_comm _ _)) rfl (mt_mono (D_voteCount h ) (fun r μ1 hq => ?_) (fun E μ1 hx => hx.elim))
  obtain ⟨v, rfl, hv, hm⟩ := hq
  refine go_aload_n (y := mLaw L xs) (pc := 1831) dL_law_1831 rfl rfl ?_
  refine go_callV (y := mLaw L xs) (pc := 1832) (y' := mX11_voteCount) (as := []) (b := 276) (rest := [.int (iI v)]) (z' := 289) (d' := 16) (kc' := 0) (ks' := 0) (kc2 := kc) (ks2 := ks) dL_law_1832 rfl ml_L_278 ok_X11_voteCount (show shp 276 = _ from rfl) ⟨_, _, rfl⟩ (by decide) rfl (by decide) (by intro v hv; simp only [List.mem_cons, List.not_mem_nil, or_false] at hv) (by show 1 ≤ 8; decide) (by decide) (by decide) (Nat.le_of_eq (Nat.zero_add _)) (Nat.le_of_eq (Nat.zero_add _)) rfl (mt_mono hm (fun r μ2 hq => ?_) (fun E μ2 hx => hx.elim))
  obtain ⟨rfl, hI⟩ := hq
  exact go_icmp_eq (y := mLaw L xs) (pc := 1835) (tgt := 2940) dL_law_1835 (by decide) hv hv (fun _ => go_fgt 6 (go_fgt 7 (K μ2 hI))) (fun g => absurd rfl g)
set_option maxRecDepth 8000 in
set_option maxHeartbeats 4000000 in
theorem L_37 (h : INV μ) (hi : i + 6 ≤ L) (hL : L ≤ 3072) (K : ∀ μ', INV μ' → go 291 20 kc ks (mLaw L xs) Q X 2940 (lLaw i) [] μ') : go 291 20 (kc + 3) (ks + 246) (mLaw L xs) Q X 1840 (lLaw i) [] μ := by
  show go 291 20 (kc + 3) (ks + 246) (mLaw L xs) Q X 1840 [.ref 6000, .ref 0, .ref 276, .ref 289, .ref 290, .int (iI (i : Nat)), .null, .null, .null] [] μ
  refine go_aload_n (y := mLaw L xs) (pc := 1840) dL_law_1840 rfl rfl ?_
  refine go_callV (y := mLaw L xs) (pc := 1841) (y' := mX10_rebuttalCount) (as := []) (b := 0) (rest := []) (z' := 276) (d' := 16) (kc' := 3) (ks' := 246) (kc2 := kc) (ks2 := ks) dL_law_1841 rfl ml_L_279 ok_X10_rebuttalCount (show shp 0 = _ from rfl) ⟨_, _, rfl⟩ (by decide) rfl (by decide) (by intro v hv; simp only [List.mem_cons, List.not_mem_nil, or_false] at hv) (by decide) (by decide) (by decide) (Nat.le_of_eq (Nat.add_comm _ _)) (Nat.le_of_eq (Nat.add_comm _ _)) rfl (mt_mono (D_rebuttalCount h ) (fun r μ1 hq => ?_) (fun E μ1 hx => hx.elim))
  obtain ⟨v, rfl, hv, hm⟩ := hq
  refine go_aload_n (y := mLaw L xs) (pc := 1844) dL_law_1844 rfl rfl ?_
  refine go_callV (y := mLaw L xs) (pc := 1845) (y' := mX11_rebuttalCount) (as := []) (b := 276) (rest := [.int (iI v)]) (z' := 289) (d' := 16) (kc' := 0) (ks' := 0) (kc2 := kc) (ks2 := ks) dL_law_1845 rfl ml_L_282 ok_X11_rebuttalCount (show shp 276 = _ from rfl) ⟨_, _, rfl⟩ (by decide) rfl (by decide) (by intro v hv; simp only [List.mem_cons, List.not_mem_nil, or_false] at hv) (by show 1 ≤ 8; decide) (by decide) (by decide) (Nat.le_of_eq (Nat.zero_add _)) (Nat.le_of_eq (Nat.zero_add _)) rfl (mt_mono hm (fun r μ2 hq => ?_) (fun E μ2 hx => hx.elim))
  obtain ⟨rfl, hI⟩ := hq
  exact go_icmp_eq (y := mLaw L xs) (pc := 1848) (tgt := 2940) dL_law_1848 (by decide) hv hv (fun _ => go_fgt 6 (go_fgt 7 (K μ2 hI))) (fun g => absurd rfl g)
set_option maxRecDepth 8000 in
set_option maxHeartbeats 4000000 in
theorem L_38 (h : INV μ) (hi : i + 6 ≤ L) (hL : L ≤ 3072) (K : ∀ μ', INV μ' → go 291 20 kc ks (mLaw L xs) Q X 2940 (lLaw i) [] μ') : go 291 20 (kc + 3) (ks + 246) (mLaw L xs) Q X 1853 (lLaw i) [] μ := by
  show go 291 20 (kc + 3) (ks + 246) (mLaw L xs) Q X 1853 [.ref 6000, .ref 0, .ref 276, .ref 289, .ref 290, .int (iI (i : Nat)), .null, .null, .null] [] μ
  refine go_aload_n (y := mLaw L xs) (pc := 1853) dL_law_1853 rfl rfl ?_
  refine go_aload_n (y := mLaw L xs) (pc := 1854) dL_law_1854 rfl rfl ?_
  refine go_iload (y := mLaw L xs) (pc := 1855) dL_law_1855 rfl ?_
  refine go_iconst (y := mLaw L xs) (pc := 1857) dL_law_1857 ?_
  refine go_iadd (y := mLaw L xs) (pc := 1858) dL_law_1858 ?_
  refine go_sld (pc := 1859) (k := i + 1) dL_law_1859 (by omega) (by omega) hL ?_
  refine go_aload (y := mLaw L xs) (pc := 1860) dL_law_1860 rfl ?_
  refine go_callSH (y := mLaw L xs) (pc := 1862) (y' := mL_meanLeaning) (as := [.ref 0, .int (iI (xi xs (i + 1))), .ref 290]) (rest := []) (z' := 291) (d' := 17) (kc' := 3) (ks' := 246) (kc2 := kc) (ks2 := ks) dL_law_1862 rfl ml_L_283 ok_L_meanLeaning rfl (by decide) (by intro v hv; simp only [List.mem_cons, List.not_mem_nil, or_false] at hv; rcases hv with rfl | rfl | rfl <;> rfl) (by decide) (Nat.le_refl _) (by decide) (Nat.le_of_eq (Nat.add_comm _ _)) (Nat.le_of_eq (Nat.add_comm _ _)) rfl (mt_mono (T_meanLeaning h (rng_t _)) (fun r μ1 hq => ?_) (fun E μ1 hx => hx.elim))
  obtain ⟨k, v, rfl, hk, hv, hm⟩ := hq
  refine go_istore (y := mLaw L xs) (pc := 1865) dL_law_1865 (by show 6 < 9; decide) ?_
  refine go_aload_n (y := mLaw L xs) (pc := 1867) dL_law_1867 rfl rfl ?_
  refine go_aload_n (y := mLaw L xs) (pc := 1868) dL_law_1868 rfl rfl ?_
  refine go_iload (y := mLaw L xs) (pc := 1869) dL_law_1869 rfl ?_
  refine go_iconst (y := mLaw L xs) (pc := 1871) dL_law_1871 ?_
  refine go_iadd (y := mLaw L xs) (pc := 1872) dL_law_1872 ?_
  refine go_sld (pc := 1873) (k := i + 1) dL_law_1873 (by omega) (by omega) hL ?_
  refine go_callV (y := mLaw L xs) (pc := 1874) (y' := mX11_meanLeaning) (as := [.int (iI (xi xs (i + 1)))]) (b := 276) (rest := []) (z' := 289) (d' := 16) (kc' := 0) (ks' := 0) (kc2 := kc) (ks2 := ks) dL_law_1874 rfl ml_L_286 ok_X11_meanLeaning (show shp 276 = _ from rfl) ⟨_, _, rfl⟩ (by decide) rfl (by decide) (by intro v hv; simp only [List.mem_cons, List.not_mem_nil, or_false] at hv; rcases hv with rfl <;> rfl) (by decide) (by decide) (by decide) (Nat.le_of_eq (Nat.zero_add _)) (Nat.le_of_eq (Nat.zero_add _)) rfl (mt_mono hm (fun r μ2 hq => ?_) (fun E μ2 hx => hx.elim))
  obtain ⟨b, rfl, e7, hI, e0⟩ := hq
  refine go_dstore7 (y := mLaw L xs) (pc := 1877) dL_law_1877 (by show 8 < 9; decide) ?_
  refine gD_aload_n (y := mLaw L xs) (pc := 1879) dL_law_1879 rfl rfl ?_
  refine gD_thrown (pc := 1880) dL_law_1880 (by decide) ?_
  rw [e7]
  refine gD_iload (y := mLaw L xs) (pc := 1883) dL_law_1883 rfl ?_
  refine gD_icmp_eq (y := mLaw L xs) (pc := 1885) (tgt := 1890) dL_law_1885 (by decide) (by omega) (by omega) (fun _ => ?_) (fun g => absurd rfl g)
  refine gD_iload (y := mLaw L xs) (pc := 1890) dL_law_1890 rfl ?_
  refine gD_if_ne (y := mLaw L xs) (pc := 1892) (tgt := 1927) dL_law_1892 (by decide) (by omega) (fun _ => (gD_go (go_goto (y := mLaw L xs) (pc := 1927) (tgt := 2940) dL_law_1927 (by decide) (go_fgt 6 (K μ2 hI))))) (fun g => ?_)
  obtain ⟨f1, f2⟩ := e0 g
  have f3 := hv g
  subst f1
  refine gD_aload (y := mLaw L xs) (pc := 1895) dL_law_1895 rfl ?_
  refine gD_iconst (y := mLaw L xs) (pc := 1897) dL_law_1897 ?_
  refine gD_daload (y := mLaw L xs) (pc := 1898) dL_law_1898 (by decide) ?_
  refine gD_dload7 (y := mLaw L xs) (pc := 1899) dL_law_1899 ?_
  refine gD_dcmp (y := mLaw L xs) (pc := 1901) dL_law_1901 (by rw [f2]; exact f3) ?_
  refine gD_go (go_if_eq (y := mLaw L xs) (pc := 1902) (tgt := 1927) dL_law_1902 (by decide) rng0 (fun _ => ?_) (fun g => absurd rfl g))
  exact go_goto (y := mLaw L xs) (pc := 1927) (tgt := 2940) dL_law_1927 (by decide) (go_fgt 6 (K μ2 hI))
set_option maxRecDepth 8000 in
set_option maxHeartbeats 4000000 in
theorem L_39 (h : INV μ) (hi : i + 6 ≤ L) (hL : L ≤ 3072) (K : ∀ μ', INV μ' → go 291 20 kc ks (mLaw L xs) Q X 2940 (lLaw i) [] μ') : go 291 20 (kc + 3) (ks + 246) (mLaw L xs) Q X 1930 (lLaw i) [] μ := by
  show go 291 20 (kc + 3) (ks + 246) (mLaw L xs) Q X 1930 [.ref 6000, .ref 0, .ref 276, .ref 289, .ref 290, .int (iI (i : Nat)), .null, .null, .null] [] μ
  refine go_aload_n (y := mLaw L xs) (pc := 1930) dL_law_1930 rfl rfl ?_
  refine go_aload_n (y := mLaw L xs) (pc := 1931) dL_law_1931 rfl rfl ?_
  refine go_iload (y := mLaw L xs) (pc := 1932) dL_law_1932 rfl ?_
  refine go_iconst (y := mLaw L xs) (pc := 1934) dL_law_1934 ?_
  refine go_iadd (y := mLaw L xs) (pc := 1935) dL_law_1935 ?_
  refine go_sld (pc := 1936) (k := i + 1) dL_law_1936 (by omega) (by omega) hL ?_
  refine go_aload (y := mLaw L xs) (pc := 1937) dL_law_1937 rfl ?_
  refine go_callSH (y := mLaw L xs) (pc := 1939) (y' := mL_weightShare) (as := [.ref 0, .int (iI (xi xs (i + 1))), .ref 290]) (rest := []) (z' := 291) (d' := 17) (kc' := 3) (ks' := 246) (kc2 := kc) (ks2 := ks) dL_law_1939 rfl ml_L_287 ok_L_weightShare rfl (by decide) (by intro v hv; simp only [List.mem_cons, List.not_mem_nil, or_false] at hv; rcases hv with rfl | rfl | rfl <;> rfl) (by decide) (Nat.le_refl _) (by decide) (Nat.le_of_eq (Nat.add_comm _ _)) (Nat.le_of_eq (Nat.add_comm _ _)) rfl (mt_mono (T_weightShare h (rng_t _)) (fun r μ1 hq => ?_) (fun E μ1 hx => hx.elim))
  obtain ⟨k, v, rfl, hk, hv, hm⟩ := hq
  refine go_istore (y := mLaw L xs) (pc := 1942) dL_law_1942 (by show 6 < 9; decide) ?_
  refine go_aload_n (y := mLaw L xs) (pc := 1944) dL_law_1944 rfl rfl ?_
  refine go_aload_n (y := mLaw L xs) (pc := 1945) dL_law_1945 rfl rfl ?_
  refine go_iload (y := mLaw L xs) (pc := 1946) dL_law_1946 rfl ?_
  refine go_iconst (y := mLaw L xs) (pc := 1948) dL_law_1948 ?_
  refine go_iadd (y := mLaw L xs) (pc := 1949) dL_law_1949 ?_
  refine go_sld (pc := 1950) (k := i + 1) dL_law_1950 (by omega) (by omega) hL ?_
  refine go_callV (y := mLaw L xs) (pc := 1951) (y' := mX11_weightShare) (as := [.int (iI (xi xs (i + 1)))]) (b := 276) (rest := []) (z' := 289) (d' := 16) (kc' := 0) (ks' := 0) (kc2 := kc) (ks2 := ks) dL_law_1951 rfl ml_L_289 ok_X11_weightShare (show shp 276 = _ from rfl) ⟨_, _, rfl⟩ (by decide) rfl (by decide) (by intro v hv; simp only [List.mem_cons, List.not_mem_nil, or_false] at hv; rcases hv with rfl <;> rfl) (by decide) (by decide) (by decide) (Nat.le_of_eq (Nat.zero_add _)) (Nat.le_of_eq (Nat.zero_add _)) rfl (mt_mono hm (fun r μ2 hq => ?_) (fun E μ2 hx => hx.elim))
  obtain ⟨b, rfl, e7, hI, e0⟩ := hq
  refine go_fstore (y := mLaw L xs) (pc := 1954) dL_law_1954 (by show 7 < 9; decide) ?_
  refine go_aload_n (y := mLaw L xs) (pc := 1956) dL_law_1956 rfl rfl ?_
  refine go_callV0 (y := mLaw L xs) (pc := 1957) (y' := mX11_thrown) (z' := 289) (d' := 0) (kc' := 0) (ks' := 0) (kc2 := kc) (ks2 := ks) dL_law_1957 ml_L_152 ok_X11_thrown (show shp 276 = _ from rfl) ⟨_, _, rfl⟩ (by decide) trivial ⟨by decide, by decide, by decide, by omega, by omega⟩ (by simp) rfl (m_thrown ?_)
  rw [e7]
  refine go_iload (y := mLaw L xs) (pc := 1960) dL_law_1960 rfl ?_
  refine go_icmp_eq (y := mLaw L xs) (pc := 1962) (tgt := 1967) dL_law_1962 (by decide) (by omega) (by omega) (fun _ => ?_) (fun g => absurd rfl g)
  refine go_iload (y := mLaw L xs) (pc := 1967) dL_law_1967 rfl ?_
  refine go_if_ne (y := mLaw L xs) (pc := 1969) (tgt := 2005) dL_law_1969 (by decide) (by omega) (fun _ => go_goto (y := mLaw L xs) (pc := 2005) (tgt := 2940) dL_law_2005 (by decide) (go_fgt 6 (go_fgt 7 (K μ2 hI)))) (fun g => ?_)
  obtain ⟨f0, f1, f2⟩ := e0 g
  have f3 := hv g
  refine go_aload (y := mLaw L xs) (pc := 1972) dL_law_1972 rfl ?_
  refine go_iconst (y := mLaw L xs) (pc := 1974) dL_law_1974 ?_
  refine go_daload (y := mLaw L xs) (pc := 1975) dL_law_1975 (by decide) ?_
  refine go_fload (y := mLaw L xs) (pc := 1976) dL_law_1976 rfl ?_
  refine go_f2d (y := mLaw L xs) (pc := 1978) dL_law_1978 f0 ?_
  refine go_dcmp (y := mLaw L xs) (pc := 1979) dL_law_1979 (by rw [f2, f1]; exact f3) ?_
  refine go_if_eq (y := mLaw L xs) (pc := 1980) (tgt := 2005) dL_law_1980 (by decide) rng0 (fun _ => ?_) (fun g => absurd rfl g)
  exact go_goto (y := mLaw L xs) (pc := 2005) (tgt := 2940) dL_law_2005 (by decide) (go_fgt 6 (go_fgt 7 (K μ2 hI)))
set_option maxRecDepth 8000 in
set_option maxHeartbeats 4000000 in
theorem L_40 (h : INV μ) (hi : i + 6 ≤ L) (hL : L ≤ 3072) (K : ∀ μ', INV μ' → go 291 20 kc ks (mLaw L xs) Q X 2940 (lLaw i) [] μ') : go 291 20 (kc + 3) (ks + 246) (mLaw L xs) Q X 2008 (lLaw i) [] μ := by
  show go 291 20 (kc + 3) (ks + 246) (mLaw L xs) Q X 2008 [.ref 6000, .ref 0, .ref 276, .ref 289, .ref 290, .int (iI (i : Nat)), .null, .null, .null] [] μ
  refine go_aload_n (y := mLaw L xs) (pc := 2008) dL_law_2008 rfl rfl ?_
  refine go_callV (y := mLaw L xs) (pc := 2009) (y' := mX10_contradictions) (as := []) (b := 0) (rest := []) (z' := 276) (d' := 16) (kc' := 3) (ks' := 246) (kc2 := kc) (ks2 := ks) dL_law_2009 rfl ml_L_290 ok_X10_contradictions (show shp 0 = _ from rfl) ⟨_, _, rfl⟩ (by decide) rfl (by decide) (by intro v hv; simp only [List.mem_cons, List.not_mem_nil, or_false] at hv) (by decide) (by decide) (by decide) (Nat.le_of_eq (Nat.add_comm _ _)) (Nat.le_of_eq (Nat.add_comm _ _)) rfl (mt_mono (D_contradictions h ) (fun r μ1 hq => ?_) (fun E μ1 hx => hx.elim))
  obtain ⟨v, rfl, hv, hm⟩ := hq
  refine go_aload_n (y := mLaw L xs) (pc := 2012) dL_law_2012 rfl rfl ?_
  refine go_callV (y := mLaw L xs) (pc := 2013) (y' := mX11_contradictions) (as := []) (b := 276) (rest := [.int (iI v)]) (z' := 289) (d' := 16) (kc' := 0) (ks' := 0) (kc2 := kc) (ks2 := ks) dL_law_2013 rfl ml_L_293 ok_X11_contradictions (show shp 276 = _ from rfl) ⟨_, _, rfl⟩ (by decide) rfl (by decide) (by intro v hv; simp only [List.mem_cons, List.not_mem_nil, or_false] at hv) (by show 1 ≤ 8; decide) (by decide) (by decide) (Nat.le_of_eq (Nat.zero_add _)) (Nat.le_of_eq (Nat.zero_add _)) rfl (mt_mono hm (fun r μ2 hq => ?_) (fun E μ2 hx => hx.elim))
  obtain ⟨rfl, hI⟩ := hq
  exact go_icmp_eq (y := mLaw L xs) (pc := 2016) (tgt := 2940) dL_law_2016 (by decide) hv hv (fun _ => go_fgt 6 (go_fgt 7 (K μ2 hI))) (fun g => absurd rfl g)
set_option maxRecDepth 8000 in
set_option maxHeartbeats 4000000 in
theorem L_41 (h : INV μ) (hi : i + 6 ≤ L) (hL : L ≤ 3072) (K : ∀ μ', INV μ' → go 291 20 kc ks (mLaw L xs) Q X 2940 (lLaw i) [] μ') : go 291 20 (kc + 3) (ks + 246) (mLaw L xs) Q X 2021 (lLaw i) [] μ := by
  show go 291 20 (kc + 3) (ks + 246) (mLaw L xs) Q X 2021 [.ref 6000, .ref 0, .ref 276, .ref 289, .ref 290, .int (iI (i : Nat)), .null, .null, .null] [] μ
  refine go_aload_n (y := mLaw L xs) (pc := 2021) dL_law_2021 rfl rfl ?_
  refine go_aload_n (y := mLaw L xs) (pc := 2022) dL_law_2022 rfl rfl ?_
  refine go_iload (y := mLaw L xs) (pc := 2023) dL_law_2023 rfl ?_
  refine go_iconst (y := mLaw L xs) (pc := 2025) dL_law_2025 ?_
  refine go_iadd (y := mLaw L xs) (pc := 2026) dL_law_2026 ?_
  refine go_sld (pc := 2027) (k := i + 1) dL_law_2027 (by omega) (by omega) hL ?_
  refine go_aload_n (y := mLaw L xs) (pc := 2028) dL_law_2028 rfl rfl ?_
  refine go_callSH (y := mLaw L xs) (pc := 2029) (y' := mL_minutesUntilSpeech) (as := [.ref 0, .int (iI (xi xs (i + 1))), .ref 289]) (rest := []) (z' := 291) (d' := 17) (kc' := 3) (ks' := 246) (kc2 := kc) (ks2 := ks) dL_law_2029 rfl ml_L_294 ok_L_minutesUntilSpeech rfl (by decide) (by intro v hv; simp only [List.mem_cons, List.not_mem_nil, or_false] at hv; rcases hv with rfl | rfl | rfl <;> rfl) (by decide) (Nat.le_refl _) (by decide) (Nat.le_of_eq (Nat.add_comm _ _)) (Nat.le_of_eq (Nat.add_comm _ _)) rfl (mt_mono (T_minutesUntilSpeech h (rng_t _)) (fun r μ1 hq => ?_) (fun E μ1 hx => hx.elim))
  obtain ⟨k, v, rfl, hk, hv, hm⟩ := hq
  refine go_istore (y := mLaw L xs) (pc := 2032) dL_law_2032 (by show 6 < 9; decide) ?_
  refine go_aload_n (y := mLaw L xs) (pc := 2034) dL_law_2034 rfl rfl ?_
  refine go_aload_n (y := mLaw L xs) (pc := 2035) dL_law_2035 rfl rfl ?_
  refine go_iload (y := mLaw L xs) (pc := 2036) dL_law_2036 rfl ?_
  refine go_iconst (y := mLaw L xs) (pc := 2038) dL_law_2038 ?_
  refine go_iadd (y := mLaw L xs) (pc := 2039) dL_law_2039 ?_
  refine go_sld (pc := 2040) (k := i + 1) dL_law_2040 (by omega) (by omega) hL ?_
  refine go_callV (y := mLaw L xs) (pc := 2041) (y' := mX11_minutesUntilSpeech) (as := [.int (iI (xi xs (i + 1)))]) (b := 276) (rest := []) (z' := 289) (d' := 16) (kc' := 0) (ks' := 0) (kc2 := kc) (ks2 := ks) dL_law_2041 rfl ml_L_296 ok_X11_minutesUntilSpeech (show shp 276 = _ from rfl) ⟨_, _, rfl⟩ (by decide) rfl (by decide) (by intro v hv; simp only [List.mem_cons, List.not_mem_nil, or_false] at hv; rcases hv with rfl <;> rfl) (by decide) (by decide) (by decide) (Nat.le_of_eq (Nat.zero_add _)) (Nat.le_of_eq (Nat.zero_add _)) rfl (mt_mono hm (fun r μ2 hq => ?_) (fun E μ2 hx => hx.elim))
  obtain ⟨b, rfl, e7, hI, e0⟩ := hq
  exact tlI (pc := 2044) dL_law_2044 dL_law_2046 dL_law_2047 dL_law_2050 dL_law_2052 dL_law_2057 dL_law_2059 dL_law_2062 dL_law_2063 dL_law_2064 dL_law_2065 dL_law_2067 dL_law_2068 dL_law_2069 dL_law_2074 (by decide) hk (fun g => (hv g).2.1) e7 hI e0 K
set_option maxRecDepth 8000 in
set_option maxHeartbeats 4000000 in
theorem L_42 (h : INV μ) (hi : i + 6 ≤ L) (hL : L ≤ 3072) (K : ∀ μ', INV μ' → go 291 20 kc ks (mLaw L xs) Q X 2940 (lLaw i) [] μ') : go 291 20 (kc + 3) (ks + 246) (mLaw L xs) Q X 2077 (lLaw i) [] μ := by
  show go 291 20 (kc + 3) (ks + 246) (mLaw L xs) Q X 2077 [.ref 6000, .ref 0, .ref 276, .ref 289, .ref 290, .int (iI (i : Nat)), .null, .null, .null] [] μ
  refine go_aload_n (y := mLaw L xs) (pc := 2077) dL_law_2077 rfl rfl ?_
  refine go_aload_n (y := mLaw L xs) (pc := 2078) dL_law_2078 rfl rfl ?_
  refine go_iload (y := mLaw L xs) (pc := 2079) dL_law_2079 rfl ?_
  refine go_iconst (y := mLaw L xs) (pc := 2081) dL_law_2081 ?_
  refine go_iadd (y := mLaw L xs) (pc := 2082) dL_law_2082 ?_
  refine go_sld (pc := 2083) (k := i + 1) dL_law_2083 (by omega) (by omega) hL ?_
  refine go_aload_n (y := mLaw L xs) (pc := 2084) dL_law_2084 rfl rfl ?_
  refine go_iload (y := mLaw L xs) (pc := 2085) dL_law_2085 rfl ?_
  refine go_iconst (y := mLaw L xs) (pc := 2087) dL_law_2087 ?_
  refine go_iadd (y := mLaw L xs) (pc := 2088) dL_law_2088 ?_
  refine go_sld (pc := 2089) (k := i + 2) dL_law_2089 (by omega) (by omega) hL ?_
  refine go_aload_n (y := mLaw L xs) (pc := 2090) dL_law_2090 rfl rfl ?_
  refine go_callSH (y := mLaw L xs) (pc := 2091) (y' := mL_latherAfter) (as := [.ref 0, .int (iI (xi xs (i + 1))), .int (iI (xi xs (i + 2))), .ref 289]) (rest := []) (z' := 291) (d' := 17) (kc' := 3) (ks' := 246) (kc2 := kc) (ks2 := ks) dL_law_2091 rfl ml_L_297 ok_L_latherAfter rfl (by decide) (by intro v hv; simp only [List.mem_cons, List.not_mem_nil, or_false] at hv; rcases hv with rfl | rfl | rfl | rfl <;> rfl) (by decide) (Nat.le_refl _) (by decide) (Nat.le_of_eq (Nat.add_comm _ _)) (Nat.le_of_eq (Nat.add_comm _ _)) rfl (mt_mono (T_latherAfter h (rng_t _) (rng_t _)) (fun r μ1 hq => ?_) (fun E μ1 hx => hx.elim))
  obtain ⟨k, v, rfl, hk, hv, hm⟩ := hq
  refine go_istore (y := mLaw L xs) (pc := 2094) dL_law_2094 (by show 6 < 9; decide) ?_
  refine go_aload_n (y := mLaw L xs) (pc := 2096) dL_law_2096 rfl rfl ?_
  refine go_aload_n (y := mLaw L xs) (pc := 2097) dL_law_2097 rfl rfl ?_
  refine go_iload (y := mLaw L xs) (pc := 2098) dL_law_2098 rfl ?_
  refine go_iconst (y := mLaw L xs) (pc := 2100) dL_law_2100 ?_
  refine go_iadd (y := mLaw L xs) (pc := 2101) dL_law_2101 ?_
  refine go_sld (pc := 2102) (k := i + 1) dL_law_2102 (by omega) (by omega) hL ?_
  refine go_aload_n (y := mLaw L xs) (pc := 2103) dL_law_2103 rfl rfl ?_
  refine go_iload (y := mLaw L xs) (pc := 2104) dL_law_2104 rfl ?_
  refine go_iconst (y := mLaw L xs) (pc := 2106) dL_law_2106 ?_
  refine go_iadd (y := mLaw L xs) (pc := 2107) dL_law_2107 ?_
  refine go_sld (pc := 2108) (k := i + 2) dL_law_2108 (by omega) (by omega) hL ?_
  refine go_callV (y := mLaw L xs) (pc := 2109) (y' := mX11_latherAfter) (as := [.int (iI (xi xs (i + 1))), .int (iI (xi xs (i + 2)))]) (b := 276) (rest := []) (z' := 289) (d' := 16) (kc' := 0) (ks' := 0) (kc2 := kc) (ks2 := ks) dL_law_2109 rfl ml_L_299 ok_X11_latherAfter (show shp 276 = _ from rfl) ⟨_, _, rfl⟩ (by decide) rfl (by decide) (by intro v hv; simp only [List.mem_cons, List.not_mem_nil, or_false] at hv; rcases hv with rfl | rfl <;> rfl) (by decide) (by decide) (by decide) (Nat.le_of_eq (Nat.zero_add _)) (Nat.le_of_eq (Nat.zero_add _)) rfl (mt_mono hm (fun r μ2 hq => ?_) (fun E μ2 hx => hx.elim))
  obtain ⟨b, rfl, e7, hI, e0⟩ := hq
  exact tlI (pc := 2112) dL_law_2112 dL_law_2114 dL_law_2115 dL_law_2118 dL_law_2120 dL_law_2125 dL_law_2127 dL_law_2130 dL_law_2131 dL_law_2132 dL_law_2133 dL_law_2135 dL_law_2136 dL_law_2137 dL_law_2142 (by decide) hk (fun g => (hv g).2.1) e7 hI e0 K
set_option maxRecDepth 8000 in
set_option maxHeartbeats 4000000 in
theorem L_43 (h : INV μ) (hi : i + 6 ≤ L) (hL : L ≤ 3072) (K : ∀ μ', INV μ' → go 291 20 kc ks (mLaw L xs) Q X 2940 (lLaw i) [] μ') : go 291 20 (kc + 3) (ks + 246) (mLaw L xs) Q X 2145 (lLaw i) [] μ := by
  show go 291 20 (kc + 3) (ks + 246) (mLaw L xs) Q X 2145 [.ref 6000, .ref 0, .ref 276, .ref 289, .ref 290, .int (iI (i : Nat)), .null, .null, .null] [] μ
  refine go_aload_n (y := mLaw L xs) (pc := 2145) dL_law_2145 rfl rfl ?_
  refine go_aload_n (y := mLaw L xs) (pc := 2146) dL_law_2146 rfl rfl ?_
  refine go_iload (y := mLaw L xs) (pc := 2147) dL_law_2147 rfl ?_
  refine go_iconst (y := mLaw L xs) (pc := 2149) dL_law_2149 ?_
  refine go_iadd (y := mLaw L xs) (pc := 2150) dL_law_2150 ?_
  refine go_sld (pc := 2151) (k := i + 1) dL_law_2151 (by omega) (by omega) hL ?_
  refine go_aload_n (y := mLaw L xs) (pc := 2152) dL_law_2152 rfl rfl ?_
  refine go_callSH (y := mLaw L xs) (pc := 2153) (y' := mL_minutesUntilVote) (as := [.ref 0, .int (iI (xi xs (i + 1))), .ref 289]) (rest := []) (z' := 291) (d' := 17) (kc' := 3) (ks' := 246) (kc2 := kc) (ks2 := ks) dL_law_2153 rfl ml_L_300 ok_L_minutesUntilVote rfl (by decide) (by intro v hv; simp only [List.mem_cons, List.not_mem_nil, or_false] at hv; rcases hv with rfl | rfl | rfl <;> rfl) (by decide) (Nat.le_refl _) (by decide) (Nat.le_of_eq (Nat.add_comm _ _)) (Nat.le_of_eq (Nat.add_comm _ _)) rfl (mt_mono (T_minutesUntilVote h (rng_t _)) (fun r μ1 hq => ?_) (fun E μ1 hx => hx.elim))
  obtain ⟨k, v, rfl, hk, hv, hm⟩ := hq
  refine go_istore (y := mLaw L xs) (pc := 2156) dL_law_2156 (by show 6 < 9; decide) ?_
  refine go_aload_n (y := mLaw L xs) (pc := 2158) dL_law_2158 rfl rfl ?_
  refine go_aload_n (y := mLaw L xs) (pc := 2159) dL_law_2159 rfl rfl ?_
  refine go_iload (y := mLaw L xs) (pc := 2160) dL_law_2160 rfl ?_
  refine go_iconst (y := mLaw L xs) (pc := 2162) dL_law_2162 ?_
  refine go_iadd (y := mLaw L xs) (pc := 2163) dL_law_2163 ?_
  refine go_sld (pc := 2164) (k := i + 1) dL_law_2164 (by omega) (by omega) hL ?_
  refine go_callV (y := mLaw L xs) (pc := 2165) (y' := mX11_minutesUntilVote) (as := [.int (iI (xi xs (i + 1)))]) (b := 276) (rest := []) (z' := 289) (d' := 16) (kc' := 0) (ks' := 0) (kc2 := kc) (ks2 := ks) dL_law_2165 rfl ml_L_302 ok_X11_minutesUntilVote (show shp 276 = _ from rfl) ⟨_, _, rfl⟩ (by decide) rfl (by decide) (by intro v hv; simp only [List.mem_cons, List.not_mem_nil, or_false] at hv; rcases hv with rfl <;> rfl) (by decide) (by decide) (by decide) (Nat.le_of_eq (Nat.zero_add _)) (Nat.le_of_eq (Nat.zero_add _)) rfl (mt_mono hm (fun r μ2 hq => ?_) (fun E μ2 hx => hx.elim))
  obtain ⟨b, rfl, e7, hI, e0⟩ := hq
  exact tlI (pc := 2168) dL_law_2168 dL_law_2170 dL_law_2171 dL_law_2174 dL_law_2176 dL_law_2181 dL_law_2183 dL_law_2186 dL_law_2187 dL_law_2188 dL_law_2189 dL_law_2191 dL_law_2192 dL_law_2193 dL_law_2198 (by decide) hk (fun g => (hv g).2.1) e7 hI e0 K
set_option maxRecDepth 8000 in
set_option maxHeartbeats 4000000 in
theorem L_44 (h : INV μ) (hi : i + 6 ≤ L) (hL : L ≤ 3072) (K : ∀ μ', INV μ' → go 291 20 kc ks (mLaw L xs) Q X 2940 (lLaw i) [] μ') : go 291 20 (kc + 3) (ks + 246) (mLaw L xs) Q X 2201 (lLaw i) [] μ := by
  show go 291 20 (kc + 3) (ks + 246) (mLaw L xs) Q X 2201 [.ref 6000, .ref 0, .ref 276, .ref 289, .ref 290, .int (iI (i : Nat)), .null, .null, .null] [] μ
  refine go_aload_n (y := mLaw L xs) (pc := 2201) dL_law_2201 rfl rfl ?_
  refine go_aload_n (y := mLaw L xs) (pc := 2202) dL_law_2202 rfl rfl ?_
  refine go_iload (y := mLaw L xs) (pc := 2203) dL_law_2203 rfl ?_
  refine go_iconst (y := mLaw L xs) (pc := 2205) dL_law_2205 ?_
  refine go_iadd (y := mLaw L xs) (pc := 2206) dL_law_2206 ?_
  refine go_sld (pc := 2207) (k := i + 1) dL_law_2207 (by omega) (by omega) hL ?_
  refine go_aload_n (y := mLaw L xs) (pc := 2208) dL_law_2208 rfl rfl ?_
  refine go_iload (y := mLaw L xs) (pc := 2209) dL_law_2209 rfl ?_
  refine go_iconst (y := mLaw L xs) (pc := 2211) dL_law_2211 ?_
  refine go_iadd (y := mLaw L xs) (pc := 2212) dL_law_2212 ?_
  refine go_sld (pc := 2213) (k := i + 2) dL_law_2213 (by omega) (by omega) hL ?_
  refine go_aload_n (y := mLaw L xs) (pc := 2214) dL_law_2214 rfl rfl ?_
  refine go_callSH (y := mLaw L xs) (pc := 2215) (y' := mL_propose) (as := [.ref 0, .int (iI (xi xs (i + 1))), .int (iI (xi xs (i + 2))), .ref 289]) (rest := []) (z' := 291) (d' := 17) (kc' := 3) (ks' := 246) (kc2 := kc) (ks2 := ks) dL_law_2215 rfl ml_L_303 ok_L_propose rfl (by decide) (by intro v hv; simp only [List.mem_cons, List.not_mem_nil, or_false] at hv; rcases hv with rfl | rfl | rfl | rfl <;> rfl) (by decide) (Nat.le_refl _) (by decide) (Nat.le_of_eq (Nat.add_comm _ _)) (Nat.le_of_eq (Nat.add_comm _ _)) rfl (mt_mono (T_propose h (rng_t _) (rng_t _)) (fun r μ1 hq => ?_) (fun E μ1 hx => hx.elim))
  obtain ⟨k, v, rfl, hk, hv, hm⟩ := hq
  refine go_istore (y := mLaw L xs) (pc := 2218) dL_law_2218 (by show 6 < 9; decide) ?_
  refine go_aload_n (y := mLaw L xs) (pc := 2220) dL_law_2220 rfl rfl ?_
  refine go_aload_n (y := mLaw L xs) (pc := 2221) dL_law_2221 rfl rfl ?_
  refine go_iload (y := mLaw L xs) (pc := 2222) dL_law_2222 rfl ?_
  refine go_iconst (y := mLaw L xs) (pc := 2224) dL_law_2224 ?_
  refine go_iadd (y := mLaw L xs) (pc := 2225) dL_law_2225 ?_
  refine go_sld (pc := 2226) (k := i + 1) dL_law_2226 (by omega) (by omega) hL ?_
  refine go_aload_n (y := mLaw L xs) (pc := 2227) dL_law_2227 rfl rfl ?_
  refine go_iload (y := mLaw L xs) (pc := 2228) dL_law_2228 rfl ?_
  refine go_iconst (y := mLaw L xs) (pc := 2230) dL_law_2230 ?_
  refine go_iadd (y := mLaw L xs) (pc := 2231) dL_law_2231 ?_
  refine go_sld (pc := 2232) (k := i + 2) dL_law_2232 (by omega) (by omega) hL ?_
  refine go_callV (y := mLaw L xs) (pc := 2233) (y' := mX11_propose) (as := [.int (iI (xi xs (i + 1))), .int (iI (xi xs (i + 2)))]) (b := 276) (rest := []) (z' := 289) (d' := 16) (kc' := 0) (ks' := 0) (kc2 := kc) (ks2 := ks) dL_law_2233 rfl ml_L_305 ok_X11_propose (show shp 276 = _ from rfl) ⟨_, _, rfl⟩ (by decide) rfl (by decide) (by intro v hv; simp only [List.mem_cons, List.not_mem_nil, or_false] at hv; rcases hv with rfl | rfl <;> rfl) (by decide) (by decide) (by decide) (Nat.le_of_eq (Nat.zero_add _)) (Nat.le_of_eq (Nat.zero_add _)) rfl (mt_mono hm (fun r μ2 hq => ?_) (fun E μ2 hx => hx.elim))
  obtain ⟨b, rfl, e7, hI, e0⟩ := hq
  exact tlI (pc := 2236) dL_law_2236 dL_law_2238 dL_law_2239 dL_law_2242 dL_law_2244 dL_law_2249 dL_law_2251 dL_law_2254 dL_law_2255 dL_law_2256 dL_law_2257 dL_law_2259 dL_law_2260 dL_law_2261 dL_law_2266 (by decide) hk (fun g => (hv g).2.1) e7 hI e0 K
set_option maxRecDepth 8000 in
set_option maxHeartbeats 4000000 in
theorem L_45 (h : INV μ) (hi : i + 6 ≤ L) (hL : L ≤ 3072) (K : ∀ μ', INV μ' → go 291 20 kc ks (mLaw L xs) Q X 2940 (lLaw i) [] μ') : go 291 20 (kc + 3) (ks + 246) (mLaw L xs) Q X 2269 (lLaw i) [] μ := by
  show go 291 20 (kc + 3) (ks + 246) (mLaw L xs) Q X 2269 [.ref 6000, .ref 0, .ref 276, .ref 289, .ref 290, .int (iI (i : Nat)), .null, .null, .null] [] μ
  refine go_aload_n (y := mLaw L xs) (pc := 2269) dL_law_2269 rfl rfl ?_
  refine go_aload_n (y := mLaw L xs) (pc := 2270) dL_law_2270 rfl rfl ?_
  refine go_iload (y := mLaw L xs) (pc := 2271) dL_law_2271 rfl ?_
  refine go_iconst (y := mLaw L xs) (pc := 2273) dL_law_2273 ?_
  refine go_iadd (y := mLaw L xs) (pc := 2274) dL_law_2274 ?_
  refine go_sld (pc := 2275) (k := i + 1) dL_law_2275 (by omega) (by omega) hL ?_
  refine go_aload_n (y := mLaw L xs) (pc := 2276) dL_law_2276 rfl rfl ?_
  refine go_iload (y := mLaw L xs) (pc := 2277) dL_law_2277 rfl ?_
  refine go_iconst (y := mLaw L xs) (pc := 2279) dL_law_2279 ?_
  refine go_iadd (y := mLaw L xs) (pc := 2280) dL_law_2280 ?_
  refine go_sld (pc := 2281) (k := i + 2) dL_law_2281 (by omega) (by omega) hL ?_
  refine go_aload_n (y := mLaw L xs) (pc := 2282) dL_law_2282 rfl rfl ?_
  refine go_iload (y := mLaw L xs) (pc := 2283) dL_law_2283 rfl ?_
  refine go_iconst (y := mLaw L xs) (pc := 2285) dL_law_2285 ?_
  refine go_iadd (y := mLaw L xs) (pc := 2286) dL_law_2286 ?_
  refine go_sld (pc := 2287) (k := i + 3) dL_law_2287 (by omega) (by omega) hL ?_
  have j2288 : go 291 20 (kc + 3) (ks + 246) (mLaw L xs) Q X 2296 [.ref 6000, .ref 0, .ref 276, .ref 289, .ref 290, .int (iI (i : Nat)), .null, .null, .null] [.int (iI (if xi xs (i + 3) = 0 then 0 else 1)), .int (iI (xi xs (i + 2))), .int (iI (xi xs (i + 1))), .ref 0] μ → go 291 20 (kc + 3) (ks + 246) (mLaw L xs) Q X 2288 [.ref 6000, .ref 0, .ref 276, .ref 289, .ref 290, .int (iI (i : Nat)), .null, .null, .null] [.int (iI (xi xs (i + 3))), .int (iI (xi xs (i + 2))), .int (iI (xi xs (i + 1))), .ref 0] μ := fun q => by
    refine go_if_eq (y := mLaw L xs) (pc := 2288) (tgt := 2295) dL_law_2288 (by decide) (rng_t _) (fun g0 => ?_) (fun g0 => ?_)
    · refine go_iconst (y := mLaw L xs) (pc := 2295) dL_law_2295 ?_
      rw [if_pos g0] at q
      exact q
    · refine go_iconst (y := mLaw L xs) (pc := 2291) dL_law_2291 ?_
      rw [if_neg g0] at q
      exact go_goto (y := mLaw L xs) (pc := 2292) (tgt := 2296) dL_law_2292 (by decide) q
  refine j2288 ?_
  refine go_aload_n (y := mLaw L xs) (pc := 2296) dL_law_2296 rfl rfl ?_
  refine go_callSH (y := mLaw L xs) (pc := 2297) (y' := mL_request) (as := [.ref 0, .int (iI (xi xs (i + 1))), .int (iI (xi xs (i + 2))), .int (iI (if xi xs (i + 3) = 0 then 0 else 1)), .ref 289]) (rest := []) (z' := 291) (d' := 17) (kc' := 3) (ks' := 246) (kc2 := kc) (ks2 := ks) dL_law_2297 rfl ml_L_306 ok_L_request rfl (by decide) (by intro v hv; simp only [List.mem_cons, List.not_mem_nil, or_false] at hv; rcases hv with rfl | rfl | rfl | rfl | rfl <;> rfl) (by decide) (Nat.le_refl _) (by decide) (Nat.le_of_eq (Nat.add_comm _ _)) (Nat.le_of_eq (Nat.add_comm _ _)) rfl (mt_mono (T_request h (rng_t _) (rng_t _) (by split <;> omega)) (fun r μ1 hq => ?_) (fun E μ1 hx => hx.elim))
  obtain ⟨k, v, rfl, hk, hv, hm⟩ := hq
  refine go_istore (y := mLaw L xs) (pc := 2300) dL_law_2300 (by show 6 < 9; decide) ?_
  refine go_aload_n (y := mLaw L xs) (pc := 2302) dL_law_2302 rfl rfl ?_
  refine go_aload_n (y := mLaw L xs) (pc := 2303) dL_law_2303 rfl rfl ?_
  refine go_iload (y := mLaw L xs) (pc := 2304) dL_law_2304 rfl ?_
  refine go_iconst (y := mLaw L xs) (pc := 2306) dL_law_2306 ?_
  refine go_iadd (y := mLaw L xs) (pc := 2307) dL_law_2307 ?_
  refine go_sld (pc := 2308) (k := i + 1) dL_law_2308 (by omega) (by omega) hL ?_
  refine go_aload_n (y := mLaw L xs) (pc := 2309) dL_law_2309 rfl rfl ?_
  refine go_iload (y := mLaw L xs) (pc := 2310) dL_law_2310 rfl ?_
  refine go_iconst (y := mLaw L xs) (pc := 2312) dL_law_2312 ?_
  refine go_iadd (y := mLaw L xs) (pc := 2313) dL_law_2313 ?_
  refine go_sld (pc := 2314) (k := i + 2) dL_law_2314 (by omega) (by omega) hL ?_
  refine go_aload_n (y := mLaw L xs) (pc := 2315) dL_law_2315 rfl rfl ?_
  refine go_iload (y := mLaw L xs) (pc := 2316) dL_law_2316 rfl ?_
  refine go_iconst (y := mLaw L xs) (pc := 2318) dL_law_2318 ?_
  refine go_iadd (y := mLaw L xs) (pc := 2319) dL_law_2319 ?_
  refine go_sld (pc := 2320) (k := i + 3) dL_law_2320 (by omega) (by omega) hL ?_
  have j2321 : go 291 20 kc ks (mLaw L xs) Q X 2329 [.ref 6000, .ref 0, .ref 276, .ref 289, .ref 290, .int (iI (i : Nat)), .int (iI k), .null, .null] [.int (iI (if xi xs (i + 3) = 0 then 0 else 1)), .int (iI (xi xs (i + 2))), .int (iI (xi xs (i + 1))), .ref 276] μ1 → go 291 20 kc ks (mLaw L xs) Q X 2321 [.ref 6000, .ref 0, .ref 276, .ref 289, .ref 290, .int (iI (i : Nat)), .int (iI k), .null, .null] [.int (iI (xi xs (i + 3))), .int (iI (xi xs (i + 2))), .int (iI (xi xs (i + 1))), .ref 276] μ1 := fun q => by
    refine go_if_eq (y := mLaw L xs) (pc := 2321) (tgt := 2328) dL_law_2321 (by decide) (rng_t _) (fun g0 => ?_) (fun g0 => ?_)
    · refine go_iconst (y := mLaw L xs) (pc := 2328) dL_law_2328 ?_
      rw [if_pos g0] at q
      exact q
    · refine go_iconst (y := mLaw L xs) (pc := 2324) dL_law_2324 ?_
      rw [if_neg g0] at q
      exact go_goto (y := mLaw L xs) (pc := 2325) (tgt := 2329) dL_law_2325 (by decide) q
  refine j2321 ?_
  refine go_callV (y := mLaw L xs) (pc := 2329) (y' := mX11_request) (as := [.int (iI (xi xs (i + 1))), .int (iI (xi xs (i + 2))), .int (iI (if xi xs (i + 3) = 0 then 0 else 1))]) (b := 276) (rest := []) (z' := 289) (d' := 16) (kc' := 0) (ks' := 0) (kc2 := kc) (ks2 := ks) dL_law_2329 rfl ml_L_309 ok_X11_request (show shp 276 = _ from rfl) ⟨_, _, rfl⟩ (by decide) rfl (by decide) (by intro v hv; simp only [List.mem_cons, List.not_mem_nil, or_false] at hv; rcases hv with rfl | rfl | rfl <;> rfl) (by decide) (by decide) (by decide) (Nat.le_of_eq (Nat.zero_add _)) (Nat.le_of_eq (Nat.zero_add _)) rfl (mt_mono hm (fun r μ2 hq => ?_) (fun E μ2 hx => hx.elim))
  obtain ⟨b, rfl, e7, hI, e0⟩ := hq
  exact tlI (pc := 2332) dL_law_2332 dL_law_2334 dL_law_2335 dL_law_2338 dL_law_2340 dL_law_2345 dL_law_2347 dL_law_2350 dL_law_2351 dL_law_2352 dL_law_2353 dL_law_2355 dL_law_2356 dL_law_2357 dL_law_2362 (by decide) hk (fun g => (hv g).2.1) e7 hI e0 K
set_option maxRecDepth 8000 in
set_option maxHeartbeats 4000000 in
theorem L_46 (h : INV μ) (hi : i + 6 ≤ L) (hL : L ≤ 3072) (K : ∀ μ', INV μ' → go 291 20 kc ks (mLaw L xs) Q X 2940 (lLaw i) [] μ') : go 291 20 (kc + 3) (ks + 246) (mLaw L xs) Q X 2365 (lLaw i) [] μ := by
  show go 291 20 (kc + 3) (ks + 246) (mLaw L xs) Q X 2365 [.ref 6000, .ref 0, .ref 276, .ref 289, .ref 290, .int (iI (i : Nat)), .null, .null, .null] [] μ
  refine go_aload_n (y := mLaw L xs) (pc := 2365) dL_law_2365 rfl rfl ?_
  refine go_aload_n (y := mLaw L xs) (pc := 2366) dL_law_2366 rfl rfl ?_
  refine go_iload (y := mLaw L xs) (pc := 2367) dL_law_2367 rfl ?_
  refine go_iconst (y := mLaw L xs) (pc := 2369) dL_law_2369 ?_
  refine go_iadd (y := mLaw L xs) (pc := 2370) dL_law_2370 ?_
  refine go_sld (pc := 2371) (k := i + 1) dL_law_2371 (by omega) (by omega) hL ?_
  refine go_aload_n (y := mLaw L xs) (pc := 2372) dL_law_2372 rfl rfl ?_
  refine go_iload (y := mLaw L xs) (pc := 2373) dL_law_2373 rfl ?_
  refine go_iconst (y := mLaw L xs) (pc := 2375) dL_law_2375 ?_
  refine go_iadd (y := mLaw L xs) (pc := 2376) dL_law_2376 ?_
  refine go_sld (pc := 2377) (k := i + 2) dL_law_2377 (by omega) (by omega) hL ?_
  refine go_aload_n (y := mLaw L xs) (pc := 2378) dL_law_2378 rfl rfl ?_
  refine go_callSH (y := mLaw L xs) (pc := 2379) (y' := mL_rebut) (as := [.ref 0, .int (iI (xi xs (i + 1))), .int (iI (xi xs (i + 2))), .ref 289]) (rest := []) (z' := 291) (d' := 17) (kc' := 3) (ks' := 246) (kc2 := kc) (ks2 := ks) dL_law_2379 rfl ml_L_310 ok_L_rebut rfl (by decide) (by intro v hv; simp only [List.mem_cons, List.not_mem_nil, or_false] at hv; rcases hv with rfl | rfl | rfl | rfl <;> rfl) (by decide) (Nat.le_refl _) (by decide) (Nat.le_of_eq (Nat.add_comm _ _)) (Nat.le_of_eq (Nat.add_comm _ _)) rfl (mt_mono (T_rebut h (rng_t _) (rng_t _)) (fun r μ1 hq => ?_) (fun E μ1 hx => hx.elim))
  obtain ⟨k, v, rfl, hk, hv, hm⟩ := hq
  refine go_istore (y := mLaw L xs) (pc := 2382) dL_law_2382 (by show 6 < 9; decide) ?_
  refine go_aload_n (y := mLaw L xs) (pc := 2384) dL_law_2384 rfl rfl ?_
  refine go_aload_n (y := mLaw L xs) (pc := 2385) dL_law_2385 rfl rfl ?_
  refine go_iload (y := mLaw L xs) (pc := 2386) dL_law_2386 rfl ?_
  refine go_iconst (y := mLaw L xs) (pc := 2388) dL_law_2388 ?_
  refine go_iadd (y := mLaw L xs) (pc := 2389) dL_law_2389 ?_
  refine go_sld (pc := 2390) (k := i + 1) dL_law_2390 (by omega) (by omega) hL ?_
  refine go_aload_n (y := mLaw L xs) (pc := 2391) dL_law_2391 rfl rfl ?_
  refine go_iload (y := mLaw L xs) (pc := 2392) dL_law_2392 rfl ?_
  refine go_iconst (y := mLaw L xs) (pc := 2394) dL_law_2394 ?_
  refine go_iadd (y := mLaw L xs) (pc := 2395) dL_law_2395 ?_
  refine go_sld (pc := 2396) (k := i + 2) dL_law_2396 (by omega) (by omega) hL ?_
  refine go_callV (y := mLaw L xs) (pc := 2397) (y' := mX11_rebut) (as := [.int (iI (xi xs (i + 1))), .int (iI (xi xs (i + 2)))]) (b := 276) (rest := []) (z' := 289) (d' := 16) (kc' := 0) (ks' := 0) (kc2 := kc) (ks2 := ks) dL_law_2397 rfl ml_L_312 ok_X11_rebut (show shp 276 = _ from rfl) ⟨_, _, rfl⟩ (by decide) rfl (by decide) (by intro v hv; simp only [List.mem_cons, List.not_mem_nil, or_false] at hv; rcases hv with rfl | rfl <;> rfl) (by decide) (by decide) (by decide) (Nat.le_of_eq (Nat.zero_add _)) (Nat.le_of_eq (Nat.zero_add _)) rfl (mt_mono hm (fun r μ2 hq => ?_) (fun E μ2 hx => hx.elim))
  obtain ⟨b, rfl, e7, hI, e0⟩ := hq
  exact tlI (pc := 2400) dL_law_2400 dL_law_2402 dL_law_2403 dL_law_2406 dL_law_2408 dL_law_2413 dL_law_2415 dL_law_2418 dL_law_2419 dL_law_2420 dL_law_2421 dL_law_2423 dL_law_2424 dL_law_2425 dL_law_2430 (by decide) hk (fun g => (hv g).2.1) e7 hI e0 K
set_option maxRecDepth 8000 in
set_option maxHeartbeats 4000000 in
theorem L_47 (h : INV μ) (hi : i + 6 ≤ L) (hL : L ≤ 3072) (K : ∀ μ', INV μ' → go 291 20 kc ks (mLaw L xs) Q X 2940 (lLaw i) [] μ') : go 291 20 (kc + 3) (ks + 246) (mLaw L xs) Q X 2433 (lLaw i) [] μ := by
  show go 291 20 (kc + 3) (ks + 246) (mLaw L xs) Q X 2433 [.ref 6000, .ref 0, .ref 276, .ref 289, .ref 290, .int (iI (i : Nat)), .null, .null, .null] [] μ
  refine go_aload_n (y := mLaw L xs) (pc := 2433) dL_law_2433 rfl rfl ?_
  refine go_aload_n (y := mLaw L xs) (pc := 2434) dL_law_2434 rfl rfl ?_
  refine go_iload (y := mLaw L xs) (pc := 2435) dL_law_2435 rfl ?_
  refine go_iconst (y := mLaw L xs) (pc := 2437) dL_law_2437 ?_
  refine go_iadd (y := mLaw L xs) (pc := 2438) dL_law_2438 ?_
  refine go_sld (pc := 2439) (k := i + 1) dL_law_2439 (by omega) (by omega) hL ?_
  refine go_aload_n (y := mLaw L xs) (pc := 2440) dL_law_2440 rfl rfl ?_
  refine go_callSH (y := mLaw L xs) (pc := 2441) (y' := mL_advance) (as := [.ref 0, .int (iI (xi xs (i + 1))), .ref 289]) (rest := []) (z' := 291) (d' := 17) (kc' := 3) (ks' := 246) (kc2 := kc) (ks2 := ks) dL_law_2441 rfl ml_L_313 ok_L_advance rfl (by decide) (by intro v hv; simp only [List.mem_cons, List.not_mem_nil, or_false] at hv; rcases hv with rfl | rfl | rfl <;> rfl) (by decide) (Nat.le_refl _) (by decide) (Nat.le_of_eq (Nat.add_comm _ _)) (Nat.le_of_eq (Nat.add_comm _ _)) rfl (mt_mono (T_advance h (rng_t _)) (fun r μ1 hq => ?_) (fun E μ1 hx => hx.elim))
  obtain ⟨k, v, rfl, hk, hv, hm⟩ := hq
  refine go_istore (y := mLaw L xs) (pc := 2444) dL_law_2444 (by show 6 < 9; decide) ?_
  refine go_aload_n (y := mLaw L xs) (pc := 2446) dL_law_2446 rfl rfl ?_
  refine go_aload_n (y := mLaw L xs) (pc := 2447) dL_law_2447 rfl rfl ?_
  refine go_iload (y := mLaw L xs) (pc := 2448) dL_law_2448 rfl ?_
  refine go_iconst (y := mLaw L xs) (pc := 2450) dL_law_2450 ?_
  refine go_iadd (y := mLaw L xs) (pc := 2451) dL_law_2451 ?_
  refine go_sld (pc := 2452) (k := i + 1) dL_law_2452 (by omega) (by omega) hL ?_
  refine go_callV (y := mLaw L xs) (pc := 2453) (y' := mX11_advance) (as := [.int (iI (xi xs (i + 1)))]) (b := 276) (rest := []) (z' := 289) (d' := 16) (kc' := 0) (ks' := 0) (kc2 := kc) (ks2 := ks) dL_law_2453 rfl ml_L_315 ok_X11_advance (show shp 276 = _ from rfl) ⟨_, _, rfl⟩ (by decide) rfl (by decide) (by intro v hv; simp only [List.mem_cons, List.not_mem_nil, or_false] at hv; rcases hv with rfl <;> rfl) (by decide) (by decide) (by decide) (Nat.le_of_eq (Nat.zero_add _)) (Nat.le_of_eq (Nat.zero_add _)) rfl (mt_mono hm (fun r μ2 hq => ?_) (fun E μ2 hx => hx.elim))
  obtain ⟨b, rfl, e7, hI, e0⟩ := hq
  exact tlI (pc := 2456) dL_law_2456 dL_law_2458 dL_law_2459 dL_law_2462 dL_law_2464 dL_law_2469 dL_law_2471 dL_law_2474 dL_law_2475 dL_law_2476 dL_law_2477 dL_law_2479 dL_law_2480 dL_law_2481 dL_law_2486 (by decide) hk (fun g => (hv g).2.1) e7 hI e0 K
set_option maxRecDepth 8000 in
set_option maxHeartbeats 4000000 in
theorem L_48 (h : INV μ) (hi : i + 6 ≤ L) (hL : L ≤ 3072) (K : ∀ μ', INV μ' → go 291 20 kc ks (mLaw L xs) Q X 2940 (lLaw i) [] μ') : go 291 20 (kc + 3) (ks + 246) (mLaw L xs) Q X 2489 (lLaw i) [] μ := by
  show go 291 20 (kc + 3) (ks + 246) (mLaw L xs) Q X 2489 [.ref 6000, .ref 0, .ref 276, .ref 289, .ref 290, .int (iI (i : Nat)), .null, .null, .null] [] μ
  refine go_aload_n (y := mLaw L xs) (pc := 2489) dL_law_2489 rfl rfl ?_
  refine go_aload_n (y := mLaw L xs) (pc := 2490) dL_law_2490 rfl rfl ?_
  refine go_iload (y := mLaw L xs) (pc := 2491) dL_law_2491 rfl ?_
  refine go_iconst (y := mLaw L xs) (pc := 2493) dL_law_2493 ?_
  refine go_iadd (y := mLaw L xs) (pc := 2494) dL_law_2494 ?_
  refine go_sld (pc := 2495) (k := i + 1) dL_law_2495 (by omega) (by omega) hL ?_
  refine go_aload_n (y := mLaw L xs) (pc := 2496) dL_law_2496 rfl rfl ?_
  refine go_callSH (y := mLaw L xs) (pc := 2497) (y' := mL_vote) (as := [.ref 0, .int (iI (xi xs (i + 1))), .ref 289]) (rest := []) (z' := 291) (d' := 17) (kc' := 3) (ks' := 246) (kc2 := kc) (ks2 := ks) dL_law_2497 rfl ml_L_316 ok_L_vote rfl (by decide) (by intro v hv; simp only [List.mem_cons, List.not_mem_nil, or_false] at hv; rcases hv with rfl | rfl | rfl <;> rfl) (by decide) (Nat.le_refl _) (by decide) (Nat.le_of_eq (Nat.add_comm _ _)) (Nat.le_of_eq (Nat.add_comm _ _)) rfl (mt_mono (T_vote h (rng_t _)) (fun r μ1 hq => ?_) (fun E μ1 hx => hx.elim))
  obtain ⟨k, v, rfl, hk, hv, hm⟩ := hq
  refine go_istore (y := mLaw L xs) (pc := 2500) dL_law_2500 (by show 6 < 9; decide) ?_
  refine go_aload_n (y := mLaw L xs) (pc := 2502) dL_law_2502 rfl rfl ?_
  refine go_aload_n (y := mLaw L xs) (pc := 2503) dL_law_2503 rfl rfl ?_
  refine go_iload (y := mLaw L xs) (pc := 2504) dL_law_2504 rfl ?_
  refine go_iconst (y := mLaw L xs) (pc := 2506) dL_law_2506 ?_
  refine go_iadd (y := mLaw L xs) (pc := 2507) dL_law_2507 ?_
  refine go_sld (pc := 2508) (k := i + 1) dL_law_2508 (by omega) (by omega) hL ?_
  refine go_callV (y := mLaw L xs) (pc := 2509) (y' := mX11_vote) (as := [.int (iI (xi xs (i + 1)))]) (b := 276) (rest := []) (z' := 289) (d' := 16) (kc' := 0) (ks' := 0) (kc2 := kc) (ks2 := ks) dL_law_2509 rfl ml_L_318 ok_X11_vote (show shp 276 = _ from rfl) ⟨_, _, rfl⟩ (by decide) rfl (by decide) (by intro v hv; simp only [List.mem_cons, List.not_mem_nil, or_false] at hv; rcases hv with rfl <;> rfl) (by decide) (by decide) (by decide) (Nat.le_of_eq (Nat.zero_add _)) (Nat.le_of_eq (Nat.zero_add _)) rfl (mt_mono hm (fun r μ2 hq => ?_) (fun E μ2 hx => hx.elim))
  obtain ⟨b, rfl, e7, hI, e0⟩ := hq
  exact tlZ (pc := 2512) dL_law_2512 dL_law_2514 dL_law_2515 dL_law_2518 dL_law_2520 dL_law_2525 dL_law_2527 dL_law_2530 dL_law_2531 dL_law_2532 dL_law_2533 dL_law_2535 dL_law_2538 dL_law_2539 dL_law_2542 dL_law_2543 dL_law_2544 dL_law_2549 (by decide) hk (fun g => (hv g).1) e7 hI e0 K
set_option maxRecDepth 8000 in
set_option maxHeartbeats 4000000 in
theorem L_49 (h : INV μ) (hi : i + 6 ≤ L) (hL : L ≤ 3072) (K : ∀ μ', INV μ' → go 291 20 kc ks (mLaw L xs) Q X 2940 (lLaw i) [] μ') : go 291 20 (kc + 3) (ks + 246) (mLaw L xs) Q X 2552 (lLaw i) [] μ := by
  show go 291 20 (kc + 3) (ks + 246) (mLaw L xs) Q X 2552 [.ref 6000, .ref 0, .ref 276, .ref 289, .ref 290, .int (iI (i : Nat)), .null, .null, .null] [] μ
  refine go_aload_n (y := mLaw L xs) (pc := 2552) dL_law_2552 rfl rfl ?_
  refine go_aload_n (y := mLaw L xs) (pc := 2553) dL_law_2553 rfl rfl ?_
  refine go_iload (y := mLaw L xs) (pc := 2554) dL_law_2554 rfl ?_
  refine go_iconst (y := mLaw L xs) (pc := 2556) dL_law_2556 ?_
  refine go_iadd (y := mLaw L xs) (pc := 2557) dL_law_2557 ?_
  refine go_sld (pc := 2558) (k := i + 1) dL_law_2558 (by omega) (by omega) hL ?_
  refine go_aload_n (y := mLaw L xs) (pc := 2559) dL_law_2559 rfl rfl ?_
  refine go_callSH (y := mLaw L xs) (pc := 2560) (y' := mL_withdraw) (as := [.ref 0, .int (iI (xi xs (i + 1))), .ref 289]) (rest := []) (z' := 291) (d' := 17) (kc' := 3) (ks' := 246) (kc2 := kc) (ks2 := ks) dL_law_2560 rfl ml_L_319 ok_L_withdraw rfl (by decide) (by intro v hv; simp only [List.mem_cons, List.not_mem_nil, or_false] at hv; rcases hv with rfl | rfl | rfl <;> rfl) (by decide) (Nat.le_refl _) (by decide) (Nat.le_of_eq (Nat.add_comm _ _)) (Nat.le_of_eq (Nat.add_comm _ _)) rfl (mt_mono (T_withdraw h (rng_t _)) (fun r μ1 hq => ?_) (fun E μ1 hx => hx.elim))
  obtain ⟨k, v, rfl, hk, hv, hm⟩ := hq
  refine go_istore (y := mLaw L xs) (pc := 2563) dL_law_2563 (by show 6 < 9; decide) ?_
  refine go_aload_n (y := mLaw L xs) (pc := 2565) dL_law_2565 rfl rfl ?_
  refine go_aload_n (y := mLaw L xs) (pc := 2566) dL_law_2566 rfl rfl ?_
  refine go_iload (y := mLaw L xs) (pc := 2567) dL_law_2567 rfl ?_
  refine go_iconst (y := mLaw L xs) (pc := 2569) dL_law_2569 ?_
  refine go_iadd (y := mLaw L xs) (pc := 2570) dL_law_2570 ?_
  refine go_sld (pc := 2571) (k := i + 1) dL_law_2571 (by omega) (by omega) hL ?_
  refine go_callV (y := mLaw L xs) (pc := 2572) (y' := mX11_withdraw) (as := [.int (iI (xi xs (i + 1)))]) (b := 276) (rest := []) (z' := 289) (d' := 16) (kc' := 0) (ks' := 0) (kc2 := kc) (ks2 := ks) dL_law_2572 rfl ml_L_321 ok_X11_withdraw (show shp 276 = _ from rfl) ⟨_, _, rfl⟩ (by decide) rfl (by decide) (by intro v hv; simp only [List.mem_cons, List.not_mem_nil, or_false] at hv; rcases hv with rfl <;> rfl) (by decide) (by decide) (by decide) (Nat.le_of_eq (Nat.zero_add _)) (Nat.le_of_eq (Nat.zero_add _)) rfl (mt_mono hm (fun r μ2 hq => ?_) (fun E μ2 hx => hx.elim))
  obtain ⟨b, rfl, e7, hI, e0⟩ := hq
  exact tlI (pc := 2575) dL_law_2575 dL_law_2577 dL_law_2578 dL_law_2581 dL_law_2583 dL_law_2588 dL_law_2590 dL_law_2593 dL_law_2594 dL_law_2595 dL_law_2596 dL_law_2598 dL_law_2599 dL_law_2600 dL_law_2605 (by decide) hk (fun g => (hv g).2.1) e7 hI e0 K
set_option maxRecDepth 8000 in
set_option maxHeartbeats 4000000 in
theorem L_50 (h : INV μ) (hi : i + 6 ≤ L) (hL : L ≤ 3072) (K : ∀ μ', INV μ' → go 291 20 kc ks (mLaw L xs) Q X 2940 (lLaw i) [] μ') : go 291 20 (kc + 3) (ks + 246) (mLaw L xs) Q X 2608 (lLaw i) [] μ := by
  show go 291 20 (kc + 3) (ks + 246) (mLaw L xs) Q X 2608 [.ref 6000, .ref 0, .ref 276, .ref 289, .ref 290, .int (iI (i : Nat)), .null, .null, .null] [] μ
  refine go_aload_n (y := mLaw L xs) (pc := 2608) dL_law_2608 rfl rfl ?_
  refine go_aload_n (y := mLaw L xs) (pc := 2609) dL_law_2609 rfl rfl ?_
  refine go_iload (y := mLaw L xs) (pc := 2610) dL_law_2610 rfl ?_
  refine go_iconst (y := mLaw L xs) (pc := 2612) dL_law_2612 ?_
  refine go_iadd (y := mLaw L xs) (pc := 2613) dL_law_2613 ?_
  refine go_sld (pc := 2614) (k := i + 1) dL_law_2614 (by omega) (by omega) hL ?_
  refine go_aload_n (y := mLaw L xs) (pc := 2615) dL_law_2615 rfl rfl ?_
  refine go_callSH (y := mLaw L xs) (pc := 2616) (y' := mL_sharpen) (as := [.ref 0, .int (iI (xi xs (i + 1))), .ref 289]) (rest := []) (z' := 291) (d' := 17) (kc' := 3) (ks' := 246) (kc2 := kc) (ks2 := ks) dL_law_2616 rfl ml_L_322 ok_L_sharpen rfl (by decide) (by intro v hv; simp only [List.mem_cons, List.not_mem_nil, or_false] at hv; rcases hv with rfl | rfl | rfl <;> rfl) (by decide) (Nat.le_refl _) (by decide) (Nat.le_of_eq (Nat.add_comm _ _)) (Nat.le_of_eq (Nat.add_comm _ _)) rfl (mt_mono (T_sharpen h (rng_t _)) (fun r μ1 hq => ?_) (fun E μ1 hx => hx.elim))
  obtain ⟨k, v, rfl, hk, hv, hm⟩ := hq
  refine go_istore (y := mLaw L xs) (pc := 2619) dL_law_2619 (by show 6 < 9; decide) ?_
  refine go_aload_n (y := mLaw L xs) (pc := 2621) dL_law_2621 rfl rfl ?_
  refine go_aload_n (y := mLaw L xs) (pc := 2622) dL_law_2622 rfl rfl ?_
  refine go_iload (y := mLaw L xs) (pc := 2623) dL_law_2623 rfl ?_
  refine go_iconst (y := mLaw L xs) (pc := 2625) dL_law_2625 ?_
  refine go_iadd (y := mLaw L xs) (pc := 2626) dL_law_2626 ?_
  refine go_sld (pc := 2627) (k := i + 1) dL_law_2627 (by omega) (by omega) hL ?_
  refine go_callV (y := mLaw L xs) (pc := 2628) (y' := mX11_sharpen) (as := [.int (iI (xi xs (i + 1)))]) (b := 276) (rest := []) (z' := 289) (d' := 16) (kc' := 0) (ks' := 0) (kc2 := kc) (ks2 := ks) dL_law_2628 rfl ml_L_324 ok_X11_sharpen (show shp 276 = _ from rfl) ⟨_, _, rfl⟩ (by decide) rfl (by decide) (by intro v hv; simp only [List.mem_cons, List.not_mem_nil, or_false] at hv; rcases hv with rfl <;> rfl) (by decide) (by decide) (by decide) (Nat.le_of_eq (Nat.zero_add _)) (Nat.le_of_eq (Nat.zero_add _)) rfl (mt_mono hm (fun r μ2 hq => ?_) (fun E μ2 hx => hx.elim))
  obtain ⟨b, rfl, e7, hI, e0⟩ := hq
  exact tlI (pc := 2631) dL_law_2631 dL_law_2633 dL_law_2634 dL_law_2637 dL_law_2639 dL_law_2644 dL_law_2646 dL_law_2649 dL_law_2650 dL_law_2651 dL_law_2652 dL_law_2654 dL_law_2655 dL_law_2656 dL_law_2661 (by decide) hk (fun g => (hv g).2.1) e7 hI e0 K
set_option maxRecDepth 8000 in
set_option maxHeartbeats 4000000 in
theorem L_51 (h : INV μ) (hi : i + 6 ≤ L) (hL : L ≤ 3072) (K : ∀ μ', INV μ' → go 291 20 kc ks (mLaw L xs) Q X 2940 (lLaw i) [] μ') : go 291 20 (kc + 3) (ks + 246) (mLaw L xs) Q X 2664 (lLaw i) [] μ := by
  show go 291 20 (kc + 3) (ks + 246) (mLaw L xs) Q X 2664 [.ref 6000, .ref 0, .ref 276, .ref 289, .ref 290, .int (iI (i : Nat)), .null, .null, .null] [] μ
  refine go_aload_n (y := mLaw L xs) (pc := 2664) dL_law_2664 rfl rfl ?_
  refine go_aload_n (y := mLaw L xs) (pc := 2665) dL_law_2665 rfl rfl ?_
  refine go_iload (y := mLaw L xs) (pc := 2666) dL_law_2666 rfl ?_
  refine go_iconst (y := mLaw L xs) (pc := 2668) dL_law_2668 ?_
  refine go_iadd (y := mLaw L xs) (pc := 2669) dL_law_2669 ?_
  refine go_sld (pc := 2670) (k := i + 1) dL_law_2670 (by omega) (by omega) hL ?_
  refine go_aload_n (y := mLaw L xs) (pc := 2671) dL_law_2671 rfl rfl ?_
  refine go_callSH (y := mLaw L xs) (pc := 2672) (y' := mL_setRanking) (as := [.ref 0, .int (iI (xi xs (i + 1))), .ref 289]) (rest := []) (z' := 291) (d' := 17) (kc' := 3) (ks' := 246) (kc2 := kc) (ks2 := ks) dL_law_2672 rfl ml_L_325 ok_L_setRanking rfl (by decide) (by intro v hv; simp only [List.mem_cons, List.not_mem_nil, or_false] at hv; rcases hv with rfl | rfl | rfl <;> rfl) (by decide) (Nat.le_refl _) (by decide) (Nat.le_of_eq (Nat.add_comm _ _)) (Nat.le_of_eq (Nat.add_comm _ _)) rfl (mt_mono (T_setRanking h (rng_t _)) (fun r μ1 hq => ?_) (fun E μ1 hx => hx.elim))
  obtain ⟨k, v, rfl, hk, hv, hm⟩ := hq
  refine go_istore (y := mLaw L xs) (pc := 2675) dL_law_2675 (by show 6 < 9; decide) ?_
  refine go_aload_n (y := mLaw L xs) (pc := 2677) dL_law_2677 rfl rfl ?_
  refine go_aload_n (y := mLaw L xs) (pc := 2678) dL_law_2678 rfl rfl ?_
  refine go_iload (y := mLaw L xs) (pc := 2679) dL_law_2679 rfl ?_
  refine go_iconst (y := mLaw L xs) (pc := 2681) dL_law_2681 ?_
  refine go_iadd (y := mLaw L xs) (pc := 2682) dL_law_2682 ?_
  refine go_sld (pc := 2683) (k := i + 1) dL_law_2683 (by omega) (by omega) hL ?_
  refine go_callV (y := mLaw L xs) (pc := 2684) (y' := mX11_setRanking) (as := [.int (iI (xi xs (i + 1)))]) (b := 276) (rest := []) (z' := 289) (d' := 16) (kc' := 0) (ks' := 0) (kc2 := kc) (ks2 := ks) dL_law_2684 rfl ml_L_327 ok_X11_setRanking (show shp 276 = _ from rfl) ⟨_, _, rfl⟩ (by decide) rfl (by decide) (by intro v hv; simp only [List.mem_cons, List.not_mem_nil, or_false] at hv; rcases hv with rfl <;> rfl) (by decide) (by decide) (by decide) (Nat.le_of_eq (Nat.zero_add _)) (Nat.le_of_eq (Nat.zero_add _)) rfl (mt_mono hm (fun r μ2 hq => ?_) (fun E μ2 hx => hx.elim))
  obtain ⟨b, rfl, e7, hI, e0⟩ := hq
  exact tlI (pc := 2687) dL_law_2687 dL_law_2689 dL_law_2690 dL_law_2693 dL_law_2695 dL_law_2700 dL_law_2702 dL_law_2705 dL_law_2706 dL_law_2707 dL_law_2708 dL_law_2710 dL_law_2711 dL_law_2712 dL_law_2717 (by decide) hk (fun g => (hv g).2.1) e7 hI e0 K
set_option maxRecDepth 8000 in
set_option maxHeartbeats 4000000 in
theorem L_52 (h : INV μ) (hi : i + 6 ≤ L) (hL : L ≤ 3072) (K : ∀ μ', INV μ' → go 291 20 kc ks (mLaw L xs) Q X 2940 (lLaw i) [] μ') : go 291 20 (kc + 3) (ks + 246) (mLaw L xs) Q X 2720 (lLaw i) [] μ := by
  show go 291 20 (kc + 3) (ks + 246) (mLaw L xs) Q X 2720 [.ref 6000, .ref 0, .ref 276, .ref 289, .ref 290, .int (iI (i : Nat)), .null, .null, .null] [] μ
  refine go_aload_n (y := mLaw L xs) (pc := 2720) dL_law_2720 rfl rfl ?_
  refine go_callV (y := mLaw L xs) (pc := 2721) (y' := mX10_writeChairs) (as := []) (b := 0) (rest := []) (z' := 276) (d' := 16) (kc' := 3) (ks' := 246) (kc2 := kc) (ks2 := ks) dL_law_2721 rfl ml_L_328 ok_X10_writeChairs (show shp 0 = _ from rfl) ⟨_, _, rfl⟩ (by decide) rfl (by decide) (by intro v hv; simp only [List.mem_cons, List.not_mem_nil, or_false] at hv) (by decide) (by decide) (by decide) (Nat.le_of_eq (Nat.add_comm _ _)) (Nat.le_of_eq (Nat.add_comm _ _)) rfl (mt_mono (D_writeChairs h ) (fun r μ1 hq => ?_) (fun E μ1 hx => hx.elim))
  obtain ⟨v, rfl, hv, hm⟩ := hq
  refine go_aload_n (y := mLaw L xs) (pc := 2724) dL_law_2724 rfl rfl ?_
  refine go_callV (y := mLaw L xs) (pc := 2725) (y' := mX11_writeChairs) (as := []) (b := 276) (rest := [.int (iI v)]) (z' := 289) (d' := 16) (kc' := 0) (ks' := 0) (kc2 := kc) (ks2 := ks) dL_law_2725 rfl ml_L_331 ok_X11_writeChairs (show shp 276 = _ from rfl) ⟨_, _, rfl⟩ (by decide) rfl (by decide) (by intro v hv; simp only [List.mem_cons, List.not_mem_nil, or_false] at hv) (by show 1 ≤ 8; decide) (by decide) (by decide) (Nat.le_of_eq (Nat.zero_add _)) (Nat.le_of_eq (Nat.zero_add _)) rfl (mt_mono hm (fun r μ2 hq => ?_) (fun E μ2 hx => hx.elim))
  obtain ⟨rfl, hI⟩ := hq
  exact go_icmp_eq (y := mLaw L xs) (pc := 2728) (tgt := 2940) dL_law_2728 (by decide) hv hv (fun _ => go_fgt 6 (go_fgt 7 (K μ2 hI))) (fun g => absurd rfl g)
set_option maxRecDepth 8000 in
set_option maxHeartbeats 4000000 in
theorem L_53 (h : INV μ) (hi : i + 6 ≤ L) (hL : L ≤ 3072) (K : ∀ μ', INV μ' → go 291 20 kc ks (mLaw L xs) Q X 2940 (lLaw i) [] μ') : go 291 20 (kc + 3) (ks + 246) (mLaw L xs) Q X 2733 (lLaw i) [] μ := by
  show go 291 20 (kc + 3) (ks + 246) (mLaw L xs) Q X 2733 [.ref 6000, .ref 0, .ref 276, .ref 289, .ref 290, .int (iI (i : Nat)), .null, .null, .null] [] μ
  refine go_aload_n (y := mLaw L xs) (pc := 2733) dL_law_2733 rfl rfl ?_
  refine go_callV (y := mLaw L xs) (pc := 2734) (y' := mX10_writeRequests) (as := []) (b := 0) (rest := []) (z' := 276) (d' := 16) (kc' := 3) (ks' := 246) (kc2 := kc) (ks2 := ks) dL_law_2734 rfl ml_L_332 ok_X10_writeRequests (show shp 0 = _ from rfl) ⟨_, _, rfl⟩ (by decide) rfl (by decide) (by intro v hv; simp only [List.mem_cons, List.not_mem_nil, or_false] at hv) (by decide) (by decide) (by decide) (Nat.le_of_eq (Nat.add_comm _ _)) (Nat.le_of_eq (Nat.add_comm _ _)) rfl (mt_mono (D_writeRequests h ) (fun r μ1 hq => ?_) (fun E μ1 hx => hx.elim))
  obtain ⟨v, rfl, hv, hm⟩ := hq
  refine go_aload_n (y := mLaw L xs) (pc := 2737) dL_law_2737 rfl rfl ?_
  refine go_callV (y := mLaw L xs) (pc := 2738) (y' := mX11_writeRequests) (as := []) (b := 276) (rest := [.int (iI v)]) (z' := 289) (d' := 16) (kc' := 0) (ks' := 0) (kc2 := kc) (ks2 := ks) dL_law_2738 rfl ml_L_335 ok_X11_writeRequests (show shp 276 = _ from rfl) ⟨_, _, rfl⟩ (by decide) rfl (by decide) (by intro v hv; simp only [List.mem_cons, List.not_mem_nil, or_false] at hv) (by show 1 ≤ 8; decide) (by decide) (by decide) (Nat.le_of_eq (Nat.zero_add _)) (Nat.le_of_eq (Nat.zero_add _)) rfl (mt_mono hm (fun r μ2 hq => ?_) (fun E μ2 hx => hx.elim))
  obtain ⟨rfl, hI⟩ := hq
  exact go_icmp_eq (y := mLaw L xs) (pc := 2741) (tgt := 2940) dL_law_2741 (by decide) hv hv (fun _ => go_fgt 6 (go_fgt 7 (K μ2 hI))) (fun g => absurd rfl g)
set_option maxRecDepth 8000 in
set_option maxHeartbeats 4000000 in
theorem L_54 (h : INV μ) (hi : i + 6 ≤ L) (hL : L ≤ 3072) (K : ∀ μ', INV μ' → go 291 20 kc ks (mLaw L xs) Q X 2940 (lLaw i) [] μ') : go 291 20 (kc + 3) (ks + 246) (mLaw L xs) Q X 2746 (lLaw i) [] μ := by
  show go 291 20 (kc + 3) (ks + 246) (mLaw L xs) Q X 2746 [.ref 6000, .ref 0, .ref 276, .ref 289, .ref 290, .int (iI (i : Nat)), .null, .null, .null] [] μ
  refine go_aload_n (y := mLaw L xs) (pc := 2746) dL_law_2746 rfl rfl ?_
  refine go_aload_n (y := mLaw L xs) (pc := 2747) dL_law_2747 rfl rfl ?_
  refine go_iload (y := mLaw L xs) (pc := 2748) dL_law_2748 rfl ?_
  refine go_iconst (y := mLaw L xs) (pc := 2750) dL_law_2750 ?_
  refine go_iadd (y := mLaw L xs) (pc := 2751) dL_law_2751 ?_
  refine go_sld (pc := 2752) (k := i + 1) dL_law_2752 (by omega) (by omega) hL ?_
  refine go_callV (y := mLaw L xs) (pc := 2753) (y' := mX10_outputByte) (as := [.int (iI (xi xs (i + 1)))]) (b := 0) (rest := []) (z' := 276) (d' := 16) (kc' := 3) (ks' := 246) (kc2 := kc) (ks2 := ks) dL_law_2753 rfl ml_L_336 ok_X10_outputByte (show shp 0 = _ from rfl) ⟨_, _, rfl⟩ (by decide) rfl (by decide) (by intro v hv; simp only [List.mem_cons, List.not_mem_nil, or_false] at hv; rw [hv]; rfl) (by decide) (by decide) (by decide) (Nat.le_of_eq (Nat.add_comm _ _)) (Nat.le_of_eq (Nat.add_comm _ _)) rfl (mt_mono (D_outputByte h (rng_t _)) (fun r μ1 hq => ?_) (fun E μ1 hx => hx.elim))
  obtain ⟨v, rfl, hv, hm⟩ := hq
  refine go_aload_n (y := mLaw L xs) (pc := 2756) dL_law_2756 rfl rfl ?_
  refine go_aload_n (y := mLaw L xs) (pc := 2757) dL_law_2757 rfl rfl ?_
  refine go_iload (y := mLaw L xs) (pc := 2758) dL_law_2758 rfl ?_
  refine go_iconst (y := mLaw L xs) (pc := 2760) dL_law_2760 ?_
  refine go_iadd (y := mLaw L xs) (pc := 2761) dL_law_2761 ?_
  refine go_sld (pc := 2762) (k := i + 1) dL_law_2762 (by omega) (by omega) hL ?_
  refine go_callV (y := mLaw L xs) (pc := 2763) (y' := mX11_outputByte) (as := [.int (iI (xi xs (i + 1)))]) (b := 276) (rest := [.int (iI v)]) (z' := 289) (d' := 16) (kc' := 0) (ks' := 0) (kc2 := kc) (ks2 := ks) dL_law_2763 rfl ml_L_339 ok_X11_outputByte (show shp 276 = _ from rfl) ⟨_, _, rfl⟩ (by decide) rfl (by decide) (by intro v hv; simp only [List.mem_cons, List.not_mem_nil, or_false] at hv; rcases hv with rfl <;> rfl) (by show 1 ≤ 8; decide) (by decide) (by decide) (Nat.le_of_eq (Nat.zero_add _)) (Nat.le_of_eq (Nat.zero_add _)) rfl (mt_mono hm (fun r μ2 hq => ?_) (fun E μ2 hx => hx.elim))
  obtain ⟨rfl, hI⟩ := hq
  exact go_icmp_eq (y := mLaw L xs) (pc := 2766) (tgt := 2940) dL_law_2766 (by decide) hv hv (fun _ => go_fgt 6 (go_fgt 7 (K μ2 hI))) (fun g => absurd rfl g)
set_option maxRecDepth 8000 in
set_option maxHeartbeats 4000000 in
theorem L_55 (h : INV μ) (hi : i + 6 ≤ L) (hL : L ≤ 3072) (K : ∀ μ', INV μ' → go 291 20 kc ks (mLaw L xs) Q X 2940 (lLaw i) [] μ') : go 291 20 (kc + 3) (ks + 246) (mLaw L xs) Q X 2771 (lLaw i) [] μ := by
  show go 291 20 (kc + 3) (ks + 246) (mLaw L xs) Q X 2771 [.ref 6000, .ref 0, .ref 276, .ref 289, .ref 290, .int (iI (i : Nat)), .null, .null, .null] [] μ
  refine go_aload_n (y := mLaw L xs) (pc := 2771) dL_law_2771 rfl rfl ?_
  refine go_callV (y := mLaw L xs) (pc := 2772) (y' := mX10_undoCount) (as := []) (b := 0) (rest := []) (z' := 276) (d' := 16) (kc' := 3) (ks' := 246) (kc2 := kc) (ks2 := ks) dL_law_2772 rfl ml_L_340 ok_X10_undoCount (show shp 0 = _ from rfl) ⟨_, _, rfl⟩ (by decide) rfl (by decide) (by intro v hv; simp only [List.mem_cons, List.not_mem_nil, or_false] at hv) (by decide) (by decide) (by decide) (Nat.le_of_eq (Nat.add_comm _ _)) (Nat.le_of_eq (Nat.add_comm _ _)) rfl (mt_mono (D_undoCount h ) (fun r μ1 hq => ?_) (fun E μ1 hx => hx.elim))
  obtain ⟨v, rfl, hv, hm⟩ := hq
  refine go_aload_n (y := mLaw L xs) (pc := 2775) dL_law_2775 rfl rfl ?_
  refine go_callV (y := mLaw L xs) (pc := 2776) (y' := mX11_undoCount) (as := []) (b := 276) (rest := [.int (iI v)]) (z' := 289) (d' := 16) (kc' := 0) (ks' := 0) (kc2 := kc) (ks2 := ks) dL_law_2776 rfl ml_L_343 ok_X11_undoCount (show shp 276 = _ from rfl) ⟨_, _, rfl⟩ (by decide) rfl (by decide) (by intro v hv; simp only [List.mem_cons, List.not_mem_nil, or_false] at hv) (by show 1 ≤ 8; decide) (by decide) (by decide) (Nat.le_of_eq (Nat.zero_add _)) (Nat.le_of_eq (Nat.zero_add _)) rfl (mt_mono hm (fun r μ2 hq => ?_) (fun E μ2 hx => hx.elim))
  obtain ⟨rfl, hI⟩ := hq
  exact go_icmp_eq (y := mLaw L xs) (pc := 2779) (tgt := 2940) dL_law_2779 (by decide) hv hv (fun _ => go_fgt 6 (go_fgt 7 (K μ2 hI))) (fun g => absurd rfl g)
set_option maxRecDepth 8000 in
set_option maxHeartbeats 4000000 in
theorem L_56 (h : INV μ) (hi : i + 6 ≤ L) (hL : L ≤ 3072) (K : ∀ μ', INV μ' → go 291 20 kc ks (mLaw L xs) Q X 2940 (lLaw i) [] μ') : go 291 20 (kc + 3) (ks + 246) (mLaw L xs) Q X 2784 (lLaw i) [] μ := by
  show go 291 20 (kc + 3) (ks + 246) (mLaw L xs) Q X 2784 [.ref 6000, .ref 0, .ref 276, .ref 289, .ref 290, .int (iI (i : Nat)), .null, .null, .null] [] μ
  refine go_aload_n (y := mLaw L xs) (pc := 2784) dL_law_2784 rfl rfl ?_
  refine go_aload_n (y := mLaw L xs) (pc := 2785) dL_law_2785 rfl rfl ?_
  refine go_callSH (y := mLaw L xs) (pc := 2786) (y' := mL_undo) (as := [.ref 0, .ref 289]) (rest := []) (z' := 291) (d' := 17) (kc' := 3) (ks' := 246) (kc2 := kc) (ks2 := ks) dL_law_2786 rfl ml_L_344 ok_L_undo rfl (by decide) (by intro v hv; simp only [List.mem_cons, List.not_mem_nil, or_false] at hv; rcases hv with rfl | rfl <;> rfl) (by decide) (Nat.le_refl _) (by decide) (Nat.le_of_eq (Nat.add_comm _ _)) (Nat.le_of_eq (Nat.add_comm _ _)) rfl (mt_mono (T_undo h ) (fun r μ1 hq => ?_) (fun E μ1 hx => hx.elim))
  obtain ⟨k, v, rfl, hk, hv, hm⟩ := hq
  refine go_istore (y := mLaw L xs) (pc := 2789) dL_law_2789 (by show 6 < 9; decide) ?_
  refine go_aload_n (y := mLaw L xs) (pc := 2791) dL_law_2791 rfl rfl ?_
  refine go_callV (y := mLaw L xs) (pc := 2792) (y' := mX11_undo) (as := []) (b := 276) (rest := []) (z' := 289) (d' := 16) (kc' := 0) (ks' := 0) (kc2 := kc) (ks2 := ks) dL_law_2792 rfl ml_L_347 ok_X11_undo (show shp 276 = _ from rfl) ⟨_, _, rfl⟩ (by decide) rfl (by decide) (by intro v hv; simp only [List.mem_cons, List.not_mem_nil, or_false] at hv) (by decide) (by decide) (by decide) (Nat.le_of_eq (Nat.zero_add _)) (Nat.le_of_eq (Nat.zero_add _)) rfl (mt_mono hm (fun r μ2 hq => ?_) (fun E μ2 hx => hx.elim))
  obtain ⟨b, rfl, e7, hI, e0⟩ := hq
  exact tlI (pc := 2795) dL_law_2795 dL_law_2797 dL_law_2798 dL_law_2801 dL_law_2803 dL_law_2808 dL_law_2810 dL_law_2813 dL_law_2814 dL_law_2815 dL_law_2816 dL_law_2818 dL_law_2819 dL_law_2820 dL_law_2825 (by decide) hk (fun g => (hv g).2.1) e7 hI e0 K
set_option maxRecDepth 8000 in
set_option maxHeartbeats 4000000 in
theorem L_57 (h : INV μ) (hi : i + 6 ≤ L) (hL : L ≤ 3072) (K : ∀ μ', INV μ' → go 291 20 kc ks (mLaw L xs) Q X 2940 (lLaw i) [] μ') : go 291 20 (kc + 3) (ks + 246) (mLaw L xs) Q X 2828 (lLaw i) [] μ := by
  show go 291 20 (kc + 3) (ks + 246) (mLaw L xs) Q X 2828 [.ref 6000, .ref 0, .ref 276, .ref 289, .ref 290, .int (iI (i : Nat)), .null, .null, .null] [] μ
  refine go_aload_n (y := mLaw L xs) (pc := 2828) dL_law_2828 rfl rfl ?_
  refine go_aload_n (y := mLaw L xs) (pc := 2829) dL_law_2829 rfl rfl ?_
  refine go_iload (y := mLaw L xs) (pc := 2830) dL_law_2830 rfl ?_
  refine go_iconst (y := mLaw L xs) (pc := 2832) dL_law_2832 ?_
  refine go_iadd (y := mLaw L xs) (pc := 2833) dL_law_2833 ?_
  refine go_sld (pc := 2834) (k := i + 1) dL_law_2834 (by omega) (by omega) hL ?_
  refine go_aload_n (y := mLaw L xs) (pc := 2835) dL_law_2835 rfl rfl ?_
  refine go_callSH (y := mLaw L xs) (pc := 2836) (y' := mL_save) (as := [.ref 0, .int (iI (xi xs (i + 1))), .ref 289]) (rest := []) (z' := 291) (d' := 17) (kc' := 3) (ks' := 246) (kc2 := kc) (ks2 := ks) dL_law_2836 rfl ml_L_348 ok_L_save rfl (by decide) (by intro v hv; simp only [List.mem_cons, List.not_mem_nil, or_false] at hv; rcases hv with rfl | rfl | rfl <;> rfl) (by decide) (Nat.le_refl _) (by decide) (Nat.le_of_eq (Nat.add_comm _ _)) (Nat.le_of_eq (Nat.add_comm _ _)) rfl (mt_mono (T_save h (rng_t _)) (fun r μ1 hq => ?_) (fun E μ1 hx => hx.elim))
  obtain ⟨k, v, rfl, hk, hv, hm⟩ := hq
  refine go_istore (y := mLaw L xs) (pc := 2839) dL_law_2839 (by show 6 < 9; decide) ?_
  refine go_aload_n (y := mLaw L xs) (pc := 2841) dL_law_2841 rfl rfl ?_
  refine go_aload_n (y := mLaw L xs) (pc := 2842) dL_law_2842 rfl rfl ?_
  refine go_iload (y := mLaw L xs) (pc := 2843) dL_law_2843 rfl ?_
  refine go_iconst (y := mLaw L xs) (pc := 2845) dL_law_2845 ?_
  refine go_iadd (y := mLaw L xs) (pc := 2846) dL_law_2846 ?_
  refine go_sld (pc := 2847) (k := i + 1) dL_law_2847 (by omega) (by omega) hL ?_
  refine go_callV (y := mLaw L xs) (pc := 2848) (y' := mX11_save) (as := [.int (iI (xi xs (i + 1)))]) (b := 276) (rest := []) (z' := 289) (d' := 16) (kc' := 0) (ks' := 0) (kc2 := kc) (ks2 := ks) dL_law_2848 rfl ml_L_350 ok_X11_save (show shp 276 = _ from rfl) ⟨_, _, rfl⟩ (by decide) rfl (by decide) (by intro v hv; simp only [List.mem_cons, List.not_mem_nil, or_false] at hv; rcases hv with rfl <;> rfl) (by decide) (by decide) (by decide) (Nat.le_of_eq (Nat.zero_add _)) (Nat.le_of_eq (Nat.zero_add _)) rfl (mt_mono hm (fun r μ2 hq => ?_) (fun E μ2 hx => hx.elim))
  obtain ⟨b, rfl, e7, hI, e0⟩ := hq
  exact tlI (pc := 2851) dL_law_2851 dL_law_2853 dL_law_2854 dL_law_2857 dL_law_2859 dL_law_2864 dL_law_2866 dL_law_2869 dL_law_2870 dL_law_2871 dL_law_2872 dL_law_2874 dL_law_2875 dL_law_2876 dL_law_2881 (by decide) hk (fun g => (hv g).2.1) e7 hI e0 K
set_option maxRecDepth 8000 in
set_option maxHeartbeats 4000000 in
theorem L_58 (h : INV μ) (hi : i + 6 ≤ L) (hL : L ≤ 3072) (K : ∀ μ', INV μ' → go 291 20 kc ks (mLaw L xs) Q X 2940 (lLaw i) [] μ') : go 291 20 (kc + 3) (ks + 246) (mLaw L xs) Q X 2884 (lLaw i) [] μ := by
  show go 291 20 (kc + 3) (ks + 246) (mLaw L xs) Q X 2884 [.ref 6000, .ref 0, .ref 276, .ref 289, .ref 290, .int (iI (i : Nat)), .null, .null, .null] [] μ
  refine go_aload_n (y := mLaw L xs) (pc := 2884) dL_law_2884 rfl rfl ?_
  refine go_aload_n (y := mLaw L xs) (pc := 2885) dL_law_2885 rfl rfl ?_
  refine go_iload (y := mLaw L xs) (pc := 2886) dL_law_2886 rfl ?_
  refine go_iconst (y := mLaw L xs) (pc := 2888) dL_law_2888 ?_
  refine go_iadd (y := mLaw L xs) (pc := 2889) dL_law_2889 ?_
  refine go_sld (pc := 2890) (k := i + 1) dL_law_2890 (by omega) (by omega) hL ?_
  refine go_aload_n (y := mLaw L xs) (pc := 2891) dL_law_2891 rfl rfl ?_
  refine go_callSH (y := mLaw L xs) (pc := 2892) (y' := mL_restore) (as := [.ref 0, .int (iI (xi xs (i + 1))), .ref 289]) (rest := []) (z' := 291) (d' := 17) (kc' := 3) (ks' := 246) (kc2 := kc) (ks2 := ks) dL_law_2892 rfl ml_L_351 ok_L_restore rfl (by decide) (by intro v hv; simp only [List.mem_cons, List.not_mem_nil, or_false] at hv; rcases hv with rfl | rfl | rfl <;> rfl) (by decide) (Nat.le_refl _) (by decide) (Nat.le_of_eq (Nat.add_comm _ _)) (Nat.le_of_eq (Nat.add_comm _ _)) rfl (mt_mono (T_restore h (rng_t _)) (fun r μ1 hq => ?_) (fun E μ1 hx => hx.elim))
  obtain ⟨k, v, rfl, hk, hv, hm⟩ := hq
  refine go_istore (y := mLaw L xs) (pc := 2895) dL_law_2895 (by show 6 < 9; decide) ?_
  refine go_aload_n (y := mLaw L xs) (pc := 2897) dL_law_2897 rfl rfl ?_
  refine go_aload_n (y := mLaw L xs) (pc := 2898) dL_law_2898 rfl rfl ?_
  refine go_iload (y := mLaw L xs) (pc := 2899) dL_law_2899 rfl ?_
  refine go_iconst (y := mLaw L xs) (pc := 2901) dL_law_2901 ?_
  refine go_iadd (y := mLaw L xs) (pc := 2902) dL_law_2902 ?_
  refine go_sld (pc := 2903) (k := i + 1) dL_law_2903 (by omega) (by omega) hL ?_
  refine go_callV (y := mLaw L xs) (pc := 2904) (y' := mX11_restore) (as := [.int (iI (xi xs (i + 1)))]) (b := 276) (rest := []) (z' := 289) (d' := 16) (kc' := 0) (ks' := 0) (kc2 := kc) (ks2 := ks) dL_law_2904 rfl ml_L_353 ok_X11_restore (show shp 276 = _ from rfl) ⟨_, _, rfl⟩ (by decide) rfl (by decide) (by intro v hv; simp only [List.mem_cons, List.not_mem_nil, or_false] at hv; rcases hv with rfl <;> rfl) (by decide) (by decide) (by decide) (Nat.le_of_eq (Nat.zero_add _)) (Nat.le_of_eq (Nat.zero_add _)) rfl (mt_mono hm (fun r μ2 hq => ?_) (fun E μ2 hx => hx.elim))
  obtain ⟨b, rfl, e7, hI, e0⟩ := hq
  exact tlI (pc := 2907) dL_law_2907 dL_law_2909 dL_law_2910 dL_law_2913 dL_law_2915 dL_law_2920 dL_law_2922 dL_law_2925 dL_law_2926 dL_law_2927 dL_law_2928 dL_law_2930 dL_law_2931 dL_law_2932 dL_law_2937 (by decide) hk (fun g => (hv g).2.1) e7 hI e0 K
end Cases
