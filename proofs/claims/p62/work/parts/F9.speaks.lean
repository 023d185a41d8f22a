/-! THE LAW's requests and rebuttals -/
theorem go_frm {S s : Mem} (hS : wfS S) (hC : wfC S s) : rng (frm S s) := by
  have hmm := mrs_4 s
  have x0 := hC.2.2.2.2.2 0 (by decide)
  have x1 := hC.2.2.2.2.2 1 (by decide)
  have x2 := hC.2.2.2.2.2 2 (by decide)
  have x3 := hC.2.2.2.2.2 3 (by decide)
  have hs1 := hS.2.2.1
  have hs1b := hS.2.2.2.1
  have hfr : frm S s = S 0 1 - mrs s := rfl
  omega
theorem if_pos_18 {x : Int} (h : (if x = 1 then (1 : Int) else 0) ≠ 0) : x = 1 := by
  by_cases g : x = 1
  · exact g
  · rw [if_neg g] at h; exact absurd rfl h
theorem if_neg_18 {x : Int} (h : (if x = 1 then (1 : Int) else 0) = 0) (g : x = 1 ∨ x = -1) : x = -1 := by
  rcases g with g | g
  · rw [if_pos g] at h; exact absurd h (by decide)
  · exact g
set_option maxRecDepth 8000 in
set_option maxHeartbeats 4000000 in
theorem l_speaks {w : Nat} (hw : is_ow w) (hz : w + 17 ≤ 293) {σ ω M : Mem} {T : Int} {n : Nat} (hB : HB M σ n) (hG : GD (su M) σ ω T) {b : Int} (hb : b = 0 ∨ b = 1) {m v : Nat} (hm : (m : Int) < su M 0 7) (hv : v < 1000) {Q : Option Value → Mem → Prop} {X : String → Mem → Prop} (K : Q (some (.int (iI (-1)))) (ow w ω (put 20 σ M))) (K2 : ∀ σ' ω' τ, eqC τ σ → GD (su M) σ' ω' T → Q (some (.int (iI 1))) (ow w ω' (put 20 σ' (hst M n τ)))) : mt 293 8 0 0 mL_speaks [.ref 0, .ref w, .int (iI b), .int (iI (m : Nat)), .int (iI (v : Nat))] Q X (ow w ω (put 20 σ M)) := by
  show go 293 8 0 0 mL_speaks Q X 0 [.ref 0, .ref w, .int (iI b), .int (iI (m : Nat)), .int (iI (v : Nat)), .null, .null, .null] [] _
  obtain ⟨hC, hR, hZ, hL, h5, hT⟩ := id hG
  have hS := hB.hS
  have n1 := wf_n hS
  have r1 := wf_r hS hC
  obtain ⟨a, ha⟩ := Int.eq_ofNat_of_zero_le r1.1
  obtain ⟨k11, h11⟩ := Int.eq_ofNat_of_zero_le r1.2.2.1
  obtain ⟨cc, hcc⟩ := Int.eq_ofNat_of_zero_le (show 0 ≤ su M 0 0 by omega)
  obtain ⟨nm, hnm⟩ := Int.eq_ofNat_of_zero_le (show 0 ≤ su M 0 7 by omega)
  have e0 : ω 0 0 = (cc : Int) := hR.1.1.trans hcc
  have e8 : ω 0 8 = (nm : Int) := hR.1.2.2.2.2.2.2.2.2.1.trans hnm
  have e9 : ω 0 9 = (a : Int) := hR.1.2.2.2.2.2.2.2.2.2.1.trans ha
  have st (q : Nat) (h : q < a) : ω 8 q = σ 7 q := (hR.2.2.1 q (by omega)).2.2.1
  have hln (i q : Nat) (h : q < a) (hi : i < nm) : ω 10 (16 * i + q) = ln σ i q := (hR.2.2.1 q (by omega)).2.2.2.2 i (by omega)
  have hlb (i q : Nat) (h : q < a) (hi : i < nm) : -20 ≤ ln σ i q ∧ ln σ i q ≤ 20 := (hC.2.2.1 q (by omega)).2.2.2.2.2.2.2.2 i (by omega)
  have sp (c : Nat) (h : c < 4) : ω 11 c = σ 16 c := (hR.2.2.2.2.1 c h).1
  have occ (c : Nat) (h : c < 4) (h16 : σ 16 c ≠ -1) : ∃ a17 : Nat, a17 < a ∧ ω 12 c = (a17 : Int) ∧ σ 17 c = (a17 : Int) ∧ ω 15 c = (if σ 18 c = 1 then 1 else 0) ∧ ω 16 c = σ 20 c ∧ (σ 18 c = 1 ∨ σ 18 c = -1) ∧ 0 ≤ σ 20 c := by
    have g1 := (hR.2.2.2.2.1 c h).2 h16
    have g2 := hC.2.2.2.2.2 c h
    obtain ⟨a17, h17⟩ := Int.eq_ofNat_of_zero_le (show 0 ≤ σ 17 c by omega)
    exact ⟨a17, by omega, by omega, h17, g1.2.2.1, g1.2.2.2, by omega, by omega⟩
  rcases hb with hb | hb
  · subst hb
    have J436 : ∀ (c u k : Nat), go 293 8 0 0 mL_speaks Q X 436 [.ref 0, .ref w, .int (iI 0), .int (iI (m : Nat)), .int (iI (v : Nat)), .int (iI (c : Nat)), .int (iI (u : Nat)), .int (iI (k : Nat))] [] (ow w ω (put 20 σ M)) := by
      intro c u k
      refine go_iconst (y := mL_speaks) (pc := 436) dL_speaks_436 ?_
      refine go_ireturn (y := mL_speaks) (pc := 437) dL_speaks_437 rfl ?_
      exact K
    have J438 : ∀ (c u k a17 : Nat), c < cc → u < nm → σ 16 c ≠ -1 → σ 20 c ≤ 0 → 0 < frm (su M) σ → tkn σ u = -1 → σ 17 c = (a17 : Int) → ln σ u a17 * σ 18 c < 0 → go 293 8 0 0 mL_speaks Q X 438 [.ref 0, .ref w, .int (iI 0), .int (iI (m : Nat)), .int (iI (v : Nat)), .int (iI (c : Nat)), .int (iI (u : Nat)), .int (iI (k : Nat))] [] (ow w ω (put 20 σ M)) := by
      intro c u k a17 hc hu h16 h20 hfr htk h17 hl9
      have hwf := wf_reb (h := c) hS hC (by omega) h16 h20 hfr
      refine go_aload_n (y := mL_speaks) (pc := 438) dL_speaks_438 rfl rfl ?_
      refine go_getR (y := mL_speaks) (pc := 439) dL_speaks_439 fl_L_185 (ow_sh hw 0 (by decide)) rfl (by omega) ?_
      refine go_iload (y := mL_speaks) (pc := 442) dL_speaks_442 rfl ?_
      refine go_iconst (y := mL_speaks) (pc := 444) dL_speaks_444 ?_
      refine go_wzas (y := mL_speaks) (pc := 445) (r := 16) (k := c) dL_speaks_445 hw (by decide) rfl hz rfl (by omega) (by decide) (by omega) ?_
      refine go_aload_n (y := mL_speaks) (pc := 446) dL_speaks_446 rfl rfl ?_
      refine go_dup (y := mL_speaks) (pc := 447) dL_speaks_447 rfl ?_
      refine go_wget (y := mL_speaks) (pc := 448) (r := 0) dL_speaks_448 fl_L_246 hw (by decide) rfl rfl hz (fun r448 => ?_)
      refine go_iconst (y := mL_speaks) (pc := 451) dL_speaks_451 ?_
      refine go_iadd (y := mL_speaks) (pc := 452) dL_speaks_452 ?_
      refine go_wputW (y := mL_speaks) (pc := 453) (r := 0) dL_speaks_453 fp_L_246 hw (by decide) rfl rfl hz  ?_
      refine go_aload_n (y := mL_speaks) (pc := 456) dL_speaks_456 rfl rfl ?_
      refine go_iload (y := mL_speaks) (pc := 457) dL_speaks_457 rfl ?_
      refine go_iload (y := mL_speaks) (pc := 459) dL_speaks_459 rfl ?_
      refine go_callV2 (y := mL_speaks) (pc := 461) (y' := mX10_rebut) (kc2 := 0) (ks2 := 0) dL_speaks_461 ml_L_283 ok_X10_rebut (show shp 0 = _ from rfl) ⟨_, _, rfl⟩ (by decide) ⟨rfl, rfl⟩ (by decide) (Nat.le_of_ble_eq_true rfl) rfl (r_rebut hw hB (m := u) (k := c) (by omega) (by omega) (by unfold rfRb; rw [if_pos ⟨⟨by omega, by omega⟩, by omega, by omega⟩, Int.toNat_natCast, Int.toNat_natCast, h17, Int.toNat_natCast, if_pos ⟨h16, h20, hfr, htk, hl9⟩]) (fun τ e461 => ?_))
      refine go_aload_n (y := mL_speaks) (pc := 464) dL_speaks_464 rfl rfl ?_
      refine go_callV0 (y := mL_speaks) (pc := 465) (y' := mX11_free) (kc2 := 0) (ks2 := 0) dL_speaks_465 ml_L_221 ok_X11_free (ow_sh hw 0 (by decide)) ⟨_, _, rfl⟩ (by omega) trivial (by decide) (Nat.le_of_ble_eq_true rfl) rfl (o_free hw hz hS hwf (own_reb hR) ?_)
      refine go_icmp_ne (y := mL_speaks) (pc := 468) (tgt := 475) dL_speaks_468 (by decide) (go_frm hS hwf) (go_frm hS hwf) (fun h468 => ?_) (fun h468 => ?_)
      · skip
        exact absurd rfl h468
      · skip
        refine go_iconst (y := mL_speaks) (pc := 471) dL_speaks_471 ?_
        refine go_goto (y := mL_speaks) (pc := 472) (tgt := 476) dL_speaks_472 (by decide) ?_
        refine go_ireturn (y := mL_speaks) (pc := 476) dL_speaks_476 rfl ?_
        exact K2 _ _ τ e461 (gd_reb hS hG (by omega) h16 h20 hfr)
    have J345 : ∀ (c u k : Nat), c < cc → u < nm → go 293 8 0 0 mL_speaks Q X 345 [.ref 0, .ref w, .int (iI 0), .int (iI (m : Nat)), .int (iI (v : Nat)), .int (iI (c : Nat)), .int (iI (u : Nat)), .int (iI (k : Nat))] [] (ow w ω (put 20 σ M)) := by
      intro c u k hc hu
      have hgf := go_frm hS hC
      have hx := hC.2.2.2.2.2 c (by omega)
      have hmr := hC.1.2.2.2.2.2.2
      have hfr : frm (su M) σ = su M 0 1 - mrs σ := rfl
      refine go_aload_n (y := mL_speaks) (pc := 345) dL_speaks_345 rfl rfl ?_
      refine go_getR (y := mL_speaks) (pc := 346) dL_speaks_346 fl_L_171 (ow_sh hw 0 (by decide)) rfl (by omega) ?_
      refine go_iload (y := mL_speaks) (pc := 349) dL_speaks_349 rfl ?_
      refine go_wial (y := mL_speaks) (pc := 351) (r := 11) (k := c) dL_speaks_351 hw (by decide) rfl hz rfl (by omega) (by decide) (fun r351 => ?_)
      refine go_top (b := σ 16 c) (sp c (by omega)) (fun t351 => ?_)
      refine go_if_lt (y := mL_speaks) (pc := 352) (tgt := 436) dL_speaks_352 (by decide) (by omega) (fun h352 => ?_) (fun h352 => ?_)
      · skip
        exact J436 c u k
      · skip
        obtain ⟨a17, o1, o2, o3, o4, o5, o6, o7⟩ := occ c (by omega) (by omega)
        have g1 := hln u a17 o1 hu
        have g2 := hlb u a17 o1 hu
        refine go_aload_n (y := mL_speaks) (pc := 355) dL_speaks_355 rfl rfl ?_
        refine go_getR (y := mL_speaks) (pc := 356) dL_speaks_356 fl_L_185 (ow_sh hw 0 (by decide)) rfl (by omega) ?_
        refine go_iload (y := mL_speaks) (pc := 359) dL_speaks_359 rfl ?_
        refine go_wzal (y := mL_speaks) (pc := 361) (r := 16) (k := c) dL_speaks_361 hw (by decide) rfl hz rfl (by omega) (by decide) (fun r361 => ?_)
        refine go_top (b := σ 20 c) (o5) (fun t361 => ?_)
        refine go_if_ne (y := mL_speaks) (pc := 362) (tgt := 436) dL_speaks_362 (by decide) (by omega) (fun h362 => ?_) (fun h362 => ?_)
        · skip
          exact J436 c u k
        · skip
          refine go_aload_n (y := mL_speaks) (pc := 365) dL_speaks_365 rfl rfl ?_
          refine go_callV0 (y := mL_speaks) (pc := 366) (y' := mX11_free) (kc2 := 0) (ks2 := 0) dL_speaks_366 ml_L_221 ok_X11_free (ow_sh hw 0 (by decide)) ⟨_, _, rfl⟩ (by omega) trivial (by decide) (Nat.le_of_ble_eq_true rfl) rfl (o_free hw hz hS hC hR ?_)
          refine go_if_eq (y := mL_speaks) (pc := 369) (tgt := 436) dL_speaks_369 (by decide) (by omega) (fun h369 => ?_) (fun h369 => ?_)
          · skip
            exact J436 c u k
          · skip
            refine go_aload_n (y := mL_speaks) (pc := 372) dL_speaks_372 rfl rfl ?_
            refine go_iload (y := mL_speaks) (pc := 373) dL_speaks_373 rfl ?_
            refine go_callV1 (y := mL_speaks) (pc := 375) (y' := mX11_chair) (kc2 := 0) (ks2 := 0) dL_speaks_375 ml_L_93 ok_X11_chair (ow_sh hw 0 (by decide)) ⟨_, _, rfl⟩ (by omega) rfl (by decide) (Nat.le_of_ble_eq_true rfl) rfl (o_chair hw hz hS hC hR (by omega) (by omega) (fun v375 e375 b375 => ?_))
            refine go_if_ge (y := mL_speaks) (pc := 378) (tgt := 436) dL_speaks_378 (by decide) (by omega) (fun h378 => ?_) (fun h378 => ?_)
            · skip
              exact J436 c u k
            · skip
              refine go_aload_n (y := mL_speaks) (pc := 381) dL_speaks_381 rfl rfl ?_
              refine go_getR (y := mL_speaks) (pc := 382) dL_speaks_382 fl_L_280 (ow_sh hw 0 (by decide)) rfl (by omega) ?_
              refine go_iload (y := mL_speaks) (pc := 385) dL_speaks_385 rfl ?_
              refine go_wzal (y := mL_speaks) (pc := 387) (r := 15) (k := c) dL_speaks_387 hw (by decide) rfl hz rfl (by omega) (by decide) (fun r387 => ?_)
              refine go_top (b := if σ 18 c = 1 then 1 else 0) (o4) (fun t387 => ?_)
              refine go_if_eq (y := mL_speaks) (pc := 388) (tgt := 415) dL_speaks_388 (by decide) (by split <;> omega) (fun h388 => ?_) (fun h388 => ?_)
              · skip
                refine go_aload_n (y := mL_speaks) (pc := 415) dL_speaks_415 rfl rfl ?_
                refine go_getR (y := mL_speaks) (pc := 416) dL_speaks_416 fl_L_67 (ow_sh hw 0 (by decide)) rfl (by omega) ?_
                refine go_bipush (y := mL_speaks) (pc := 419) dL_speaks_419 (by decide) ?_
                refine go_iload (y := mL_speaks) (pc := 421) dL_speaks_421 rfl ?_
                refine go_imul (y := mL_speaks) (pc := 423) dL_speaks_423 ?_
                refine go_aload_n (y := mL_speaks) (pc := 424) dL_speaks_424 rfl rfl ?_
                refine go_getR (y := mL_speaks) (pc := 425) dL_speaks_425 fl_L_191 (ow_sh hw 0 (by decide)) rfl (by omega) ?_
                refine go_iload (y := mL_speaks) (pc := 428) dL_speaks_428 rfl ?_
                refine go_wial (y := mL_speaks) (pc := 430) (r := 12) (k := c) dL_speaks_430 hw (by decide) rfl hz rfl (by omega) (by decide) (fun r430 => ?_)
                refine go_top (b := ((a17 : Nat) : Int)) (o2) (fun t430 => ?_)
                refine go_iadd (y := mL_speaks) (pc := 431) dL_speaks_431 ?_
                refine go_wial (y := mL_speaks) (pc := 432) (r := 10) (k := ((16 * u) + a17)) dL_speaks_432 hw (by decide) rfl hz (by omega) (by omega) (by decide) (fun r432 => ?_)
                refine go_top (b := ln σ u a17) (g1) (fun t432 => ?_)
                refine go_if_gt (y := mL_speaks) (pc := 433) (tgt := 438) dL_speaks_433 (by decide) (by omega) (fun h433 => ?_) (fun h433 => ?_)
                · skip
                  refine J438 c u k a17 hc hu (by omega) (by omega) (by omega) (by omega) o3 ?_
                  rw [if_neg_18 h388 o6]
                  omega
                · skip
                  exact J436 c u k
              · skip
                refine go_aload_n (y := mL_speaks) (pc := 391) dL_speaks_391 rfl rfl ?_
                refine go_getR (y := mL_speaks) (pc := 392) dL_speaks_392 fl_L_67 (ow_sh hw 0 (by decide)) rfl (by omega) ?_
                refine go_bipush (y := mL_speaks) (pc := 395) dL_speaks_395 (by decide) ?_
                refine go_iload (y := mL_speaks) (pc := 397) dL_speaks_397 rfl ?_
                refine go_imul (y := mL_speaks) (pc := 399) dL_speaks_399 ?_
                refine go_aload_n (y := mL_speaks) (pc := 400) dL_speaks_400 rfl rfl ?_
                refine go_getR (y := mL_speaks) (pc := 401) dL_speaks_401 fl_L_191 (ow_sh hw 0 (by decide)) rfl (by omega) ?_
                refine go_iload (y := mL_speaks) (pc := 404) dL_speaks_404 rfl ?_
                refine go_wial (y := mL_speaks) (pc := 406) (r := 12) (k := c) dL_speaks_406 hw (by decide) rfl hz rfl (by omega) (by decide) (fun r406 => ?_)
                refine go_top (b := ((a17 : Nat) : Int)) (o2) (fun t406 => ?_)
                refine go_iadd (y := mL_speaks) (pc := 407) dL_speaks_407 ?_
                refine go_wial (y := mL_speaks) (pc := 408) (r := 10) (k := ((16 * u) + a17)) dL_speaks_408 hw (by decide) rfl hz (by omega) (by omega) (by decide) (fun r408 => ?_)
                refine go_top (b := ln σ u a17) (g1) (fun t408 => ?_)
                refine go_if_lt (y := mL_speaks) (pc := 409) (tgt := 438) dL_speaks_409 (by decide) (by omega) (fun h409 => ?_) (fun h409 => ?_)
                · skip
                  refine J438 c u k a17 hc hu (by omega) (by omega) (by omega) (by omega) o3 ?_
                  rw [if_pos_18 h388]
                  omega
                · skip
                  refine go_goto (y := mL_speaks) (pc := 412) (tgt := 436) dL_speaks_412 (by decide) ?_
                  exact J436 c u k
    have loop2 : ∀ (j k c u : Nat), k + j = nm → c < cc → u < nm → go 293 8 0 0 mL_speaks Q X 245 [.ref 0, .ref w, .int (iI 0), .int (iI (m : Nat)), .int (iI (v : Nat)), .int (iI (c : Nat)), .int (iI (u : Nat)), .int (iI (k : Nat))] [] (ow w ω (put 20 σ M)) := by
      intro j
      induction j with
      | zero =>
        intro k c u hk hc hu
        refine go_iload (y := mL_speaks) (pc := 245) dL_speaks_245 rfl ?_
        refine go_aload_n (y := mL_speaks) (pc := 247) dL_speaks_247 rfl rfl ?_
        refine go_wget (y := mL_speaks) (pc := 248) (r := 0) dL_speaks_248 fl_L_50 hw (by decide) rfl rfl hz (fun r248 => ?_)
        refine go_top (b := ((nm : Nat) : Int)) (e8) (fun t248 => ?_)
        refine go_icmp_ge (y := mL_speaks) (pc := 251) (tgt := 345) dL_speaks_251 (by decide) (by omega) (by omega) (fun h251 => ?_) (fun h251 => ?_)
        · skip
          exact J345 c u k hc hu
        · skip
          exact absurd h251 (by omega)
      | succ j ih =>
        intro k c u hk hc hu
        have J328 : go 293 8 0 0 mL_speaks Q X 328 [.ref 0, .ref w, .int (iI 0), .int (iI (m : Nat)), .int (iI (v : Nat)), .int (iI (c : Nat)), .int (iI (u : Nat)), .int (iI (k : Nat))] [] (ow w ω (put 20 σ M)) := by
          refine go_iload (y := mL_speaks) (pc := 328) dL_speaks_328 rfl ?_
          refine go_iconst (y := mL_speaks) (pc := 330) dL_speaks_330 ?_
          refine go_iadd (y := mL_speaks) (pc := 331) dL_speaks_331 ?_
          refine go_aload_n (y := mL_speaks) (pc := 332) dL_speaks_332 rfl rfl ?_
          refine go_wget (y := mL_speaks) (pc := 333) (r := 0) dL_speaks_333 fl_L_50 hw (by decide) rfl rfl hz (fun r333 => ?_)
          refine go_top (b := ((nm : Nat) : Int)) (e8) (fun t333 => ?_)
          refine go_iremN (y := mL_speaks) (pc := 336) (a := (u + 1)) (b := nm) dL_speaks_336 (by omega) (by omega) (by omega) ?_
          refine go_istore (y := mL_speaks) (pc := 337) dL_speaks_337 (by decide) ?_
          refine go_iinc (y := mL_speaks) (pc := 339) dL_speaks_339 rfl (by decide) ?_
          refine go_goto (y := mL_speaks) (pc := 342) (tgt := 245) dL_speaks_342 (by decide) ?_
          exact ih (k + 1) c ((u + 1) % nm) (by omega) hc (Nat.mod_lt _ (by omega))
        have hx := hC.2.2.2.2.2 c (by omega)
        refine go_iload (y := mL_speaks) (pc := 245) dL_speaks_245 rfl ?_
        refine go_aload_n (y := mL_speaks) (pc := 247) dL_speaks_247 rfl rfl ?_
        refine go_wget (y := mL_speaks) (pc := 248) (r := 0) dL_speaks_248 fl_L_50 hw (by decide) rfl rfl hz (fun r248 => ?_)
        refine go_top (b := ((nm : Nat) : Int)) (e8) (fun t248 => ?_)
        refine go_icmp_ge (y := mL_speaks) (pc := 251) (tgt := 345) dL_speaks_251 (by decide) (by omega) (by omega) (fun h251 => ?_) (fun h251 => ?_)
        · skip
          exact J345 c u k hc hu
        · skip
          refine go_aload_n (y := mL_speaks) (pc := 254) dL_speaks_254 rfl rfl ?_
          refine go_getR (y := mL_speaks) (pc := 255) dL_speaks_255 fl_L_171 (ow_sh hw 0 (by decide)) rfl (by omega) ?_
          refine go_iload (y := mL_speaks) (pc := 258) dL_speaks_258 rfl ?_
          refine go_wial (y := mL_speaks) (pc := 260) (r := 11) (k := c) dL_speaks_260 hw (by decide) rfl hz rfl (by omega) (by decide) (fun r260 => ?_)
          refine go_top (b := σ 16 c) (sp c (by omega)) (fun t260 => ?_)
          refine go_if_lt (y := mL_speaks) (pc := 261) (tgt := 345) dL_speaks_261 (by decide) (by omega) (fun h261 => ?_) (fun h261 => ?_)
          · skip
            exact J345 c u k hc hu
          · skip
            obtain ⟨a17, o1, o2, o3, o4, o5, o6, o7⟩ := occ c (by omega) (by omega)
            have g1 := hln u a17 o1 hu
            have g2 := hlb u a17 o1 hu
            refine go_aload_n (y := mL_speaks) (pc := 264) dL_speaks_264 rfl rfl ?_
            refine go_iload (y := mL_speaks) (pc := 265) dL_speaks_265 rfl ?_
            refine go_callV1 (y := mL_speaks) (pc := 267) (y' := mX11_chair) (kc2 := 0) (ks2 := 0) dL_speaks_267 ml_L_93 ok_X11_chair (ow_sh hw 0 (by decide)) ⟨_, _, rfl⟩ (by omega) rfl (by decide) (Nat.le_of_ble_eq_true rfl) rfl (o_chair hw hz hS hC hR (by omega) (by omega) (fun v267 e267 b267 => ?_))
            refine go_if_ge (y := mL_speaks) (pc := 270) (tgt := 328) dL_speaks_270 (by decide) (by omega) (fun h270 => ?_) (fun h270 => ?_)
            · skip
              exact J328
            · skip
              refine go_aload_n (y := mL_speaks) (pc := 273) dL_speaks_273 rfl rfl ?_
              refine go_getR (y := mL_speaks) (pc := 274) dL_speaks_274 fl_L_280 (ow_sh hw 0 (by decide)) rfl (by omega) ?_
              refine go_iload (y := mL_speaks) (pc := 277) dL_speaks_277 rfl ?_
              refine go_wzal (y := mL_speaks) (pc := 279) (r := 15) (k := c) dL_speaks_279 hw (by decide) rfl hz rfl (by omega) (by decide) (fun r279 => ?_)
              refine go_top (b := if σ 18 c = 1 then 1 else 0) (o4) (fun t279 => ?_)
              refine go_if_eq (y := mL_speaks) (pc := 280) (tgt := 307) dL_speaks_280 (by decide) (by split <;> omega) (fun h280 => ?_) (fun h280 => ?_)
              · skip
                refine go_aload_n (y := mL_speaks) (pc := 307) dL_speaks_307 rfl rfl ?_
                refine go_getR (y := mL_speaks) (pc := 308) dL_speaks_308 fl_L_67 (ow_sh hw 0 (by decide)) rfl (by omega) ?_
                refine go_bipush (y := mL_speaks) (pc := 311) dL_speaks_311 (by decide) ?_
                refine go_iload (y := mL_speaks) (pc := 313) dL_speaks_313 rfl ?_
                refine go_imul (y := mL_speaks) (pc := 315) dL_speaks_315 ?_
                refine go_aload_n (y := mL_speaks) (pc := 316) dL_speaks_316 rfl rfl ?_
                refine go_getR (y := mL_speaks) (pc := 317) dL_speaks_317 fl_L_191 (ow_sh hw 0 (by decide)) rfl (by omega) ?_
                refine go_iload (y := mL_speaks) (pc := 320) dL_speaks_320 rfl ?_
                refine go_wial (y := mL_speaks) (pc := 322) (r := 12) (k := c) dL_speaks_322 hw (by decide) rfl hz rfl (by omega) (by decide) (fun r322 => ?_)
                refine go_top (b := ((a17 : Nat) : Int)) (o2) (fun t322 => ?_)
                refine go_iadd (y := mL_speaks) (pc := 323) dL_speaks_323 ?_
                refine go_wial (y := mL_speaks) (pc := 324) (r := 10) (k := ((16 * u) + a17)) dL_speaks_324 hw (by decide) rfl hz (by omega) (by omega) (by decide) (fun r324 => ?_)
                refine go_top (b := ln σ u a17) (g1) (fun t324 => ?_)
                refine go_if_gt (y := mL_speaks) (pc := 325) (tgt := 345) dL_speaks_325 (by decide) (by omega) (fun h325 => ?_) (fun h325 => ?_)
                · skip
                  exact J345 c u k hc hu
                · skip
                  exact J328
              · skip
                refine go_aload_n (y := mL_speaks) (pc := 283) dL_speaks_283 rfl rfl ?_
                refine go_getR (y := mL_speaks) (pc := 284) dL_speaks_284 fl_L_67 (ow_sh hw 0 (by decide)) rfl (by omega) ?_
                refine go_bipush (y := mL_speaks) (pc := 287) dL_speaks_287 (by decide) ?_
                refine go_iload (y := mL_speaks) (pc := 289) dL_speaks_289 rfl ?_
                refine go_imul (y := mL_speaks) (pc := 291) dL_speaks_291 ?_
                refine go_aload_n (y := mL_speaks) (pc := 292) dL_speaks_292 rfl rfl ?_
                refine go_getR (y := mL_speaks) (pc := 293) dL_speaks_293 fl_L_191 (ow_sh hw 0 (by decide)) rfl (by omega) ?_
                refine go_iload (y := mL_speaks) (pc := 296) dL_speaks_296 rfl ?_
                refine go_wial (y := mL_speaks) (pc := 298) (r := 12) (k := c) dL_speaks_298 hw (by decide) rfl hz rfl (by omega) (by decide) (fun r298 => ?_)
                refine go_top (b := ((a17 : Nat) : Int)) (o2) (fun t298 => ?_)
                refine go_iadd (y := mL_speaks) (pc := 299) dL_speaks_299 ?_
                refine go_wial (y := mL_speaks) (pc := 300) (r := 10) (k := ((16 * u) + a17)) dL_speaks_300 hw (by decide) rfl hz (by omega) (by omega) (by decide) (fun r300 => ?_)
                refine go_top (b := ln σ u a17) (g1) (fun t300 => ?_)
                refine go_if_lt (y := mL_speaks) (pc := 301) (tgt := 345) dL_speaks_301 (by decide) (by omega) (fun h301 => ?_) (fun h301 => ?_)
                · skip
                  exact J345 c u k hc hu
                · skip
                  refine go_goto (y := mL_speaks) (pc := 304) (tgt := 328) dL_speaks_304 (by decide) ?_
                  exact J328
    have J239 : ∀ (c k : Nat), c < cc → go 293 8 0 0 mL_speaks Q X 239 [.ref 0, .ref w, .int (iI 0), .int (iI (m : Nat)), .int (iI (v : Nat)), .int (iI (c : Nat)), .int (iI (k : Nat)), .null] [] (ow w ω (put 20 σ M)) := by
      intro c k hc
      refine go_iload_n (y := mL_speaks) (pc := 239) dL_speaks_239 rfl rfl ?_
      refine go_istore (y := mL_speaks) (pc := 240) dL_speaks_240 (by decide) ?_
      refine go_iconst (y := mL_speaks) (pc := 242) dL_speaks_242 ?_
      refine go_istore (y := mL_speaks) (pc := 243) dL_speaks_243 (by decide) ?_
      exact loop2 nm 0 c m (by omega) hc (by omega)
    have loop1 : ∀ (j k c : Nat), k + j = cc → c < cc → go 293 8 0 0 mL_speaks Q X 203 [.ref 0, .ref w, .int (iI 0), .int (iI (m : Nat)), .int (iI (v : Nat)), .int (iI (c : Nat)), .int (iI (k : Nat)), .null] [] (ow w ω (put 20 σ M)) := by
      intro j
      induction j with
      | zero =>
        intro k c hk hc
        refine go_iload (y := mL_speaks) (pc := 203) dL_speaks_203 rfl ?_
        refine go_aload_n (y := mL_speaks) (pc := 205) dL_speaks_205 rfl rfl ?_
        refine go_wget (y := mL_speaks) (pc := 206) (r := 0) dL_speaks_206 fl_L_168 hw (by decide) rfl rfl hz (fun r206 => ?_)
        refine go_top (b := ((cc : Nat) : Int)) (e0) (fun t206 => ?_)
        refine go_icmp_ge (y := mL_speaks) (pc := 209) (tgt := 239) dL_speaks_209 (by decide) (by omega) (by omega) (fun h209 => ?_) (fun h209 => ?_)
        · skip
          exact J239 c k hc
        · skip
          exact absurd h209 (by omega)
      | succ j ih =>
        intro k c hk hc
        have hx := hC.2.2.2.2.2 c (by omega)
        refine go_iload (y := mL_speaks) (pc := 203) dL_speaks_203 rfl ?_
        refine go_aload_n (y := mL_speaks) (pc := 205) dL_speaks_205 rfl rfl ?_
        refine go_wget (y := mL_speaks) (pc := 206) (r := 0) dL_speaks_206 fl_L_168 hw (by decide) rfl rfl hz (fun r206 => ?_)
        refine go_top (b := ((cc : Nat) : Int)) (e0) (fun t206 => ?_)
        refine go_icmp_ge (y := mL_speaks) (pc := 209) (tgt := 239) dL_speaks_209 (by decide) (by omega) (by omega) (fun h209 => ?_) (fun h209 => ?_)
        · skip
          exact J239 c k hc
        · skip
          refine go_aload_n (y := mL_speaks) (pc := 212) dL_speaks_212 rfl rfl ?_
          refine go_getR (y := mL_speaks) (pc := 213) dL_speaks_213 fl_L_171 (ow_sh hw 0 (by decide)) rfl (by omega) ?_
          refine go_iload (y := mL_speaks) (pc := 216) dL_speaks_216 rfl ?_
          refine go_wial (y := mL_speaks) (pc := 218) (r := 11) (k := c) dL_speaks_218 hw (by decide) rfl hz rfl (by omega) (by decide) (fun r218 => ?_)
          refine go_top (b := σ 16 c) (sp c (by omega)) (fun t218 => ?_)
          refine go_if_ge (y := mL_speaks) (pc := 219) (tgt := 239) dL_speaks_219 (by decide) (by omega) (fun h219 => ?_) (fun h219 => ?_)
          · skip
            exact J239 c k hc
          · skip
            refine go_iload (y := mL_speaks) (pc := 222) dL_speaks_222 rfl ?_
            refine go_iconst (y := mL_speaks) (pc := 224) dL_speaks_224 ?_
            refine go_iadd (y := mL_speaks) (pc := 225) dL_speaks_225 ?_
            refine go_aload_n (y := mL_speaks) (pc := 226) dL_speaks_226 rfl rfl ?_
            refine go_wget (y := mL_speaks) (pc := 227) (r := 0) dL_speaks_227 fl_L_168 hw (by decide) rfl rfl hz (fun r227 => ?_)
            refine go_top (b := ((cc : Nat) : Int)) (e0) (fun t227 => ?_)
            refine go_iremN (y := mL_speaks) (pc := 230) (a := (c + 1)) (b := cc) dL_speaks_230 (by omega) (by omega) (by omega) ?_
            refine go_istore (y := mL_speaks) (pc := 231) dL_speaks_231 (by decide) ?_
            refine go_iinc (y := mL_speaks) (pc := 233) dL_speaks_233 rfl (by decide) ?_
            refine go_goto (y := mL_speaks) (pc := 236) (tgt := 203) dL_speaks_236 (by decide) ?_
            exact ih (k + 1) ((c + 1) % cc) (by omega) (Nat.mod_lt _ (by omega))
    refine go_iload_n (y := mL_speaks) (pc := 0) dL_speaks_0 rfl rfl ?_
    refine go_if_eq (y := mL_speaks) (pc := 1) (tgt := 191) dL_speaks_1 (by decide) (by omega) (fun h1 => ?_) (fun h1 => ?_)
    · skip
      refine go_iload (y := mL_speaks) (pc := 191) dL_speaks_191 rfl ?_
      refine go_aload_n (y := mL_speaks) (pc := 193) dL_speaks_193 rfl rfl ?_
      refine go_wget (y := mL_speaks) (pc := 194) (r := 0) dL_speaks_194 fl_L_168 hw (by decide) rfl rfl hz (fun r194 => ?_)
      refine go_top (b := ((cc : Nat) : Int)) (e0) (fun t194 => ?_)
      refine go_iremN (y := mL_speaks) (pc := 197) (a := v) (b := cc) dL_speaks_197 (by omega) (by omega) (by omega) ?_
      refine go_istore (y := mL_speaks) (pc := 198) dL_speaks_198 (by decide) ?_
      refine go_iconst (y := mL_speaks) (pc := 200) dL_speaks_200 ?_
      refine go_istore (y := mL_speaks) (pc := 201) dL_speaks_201 (by decide) ?_
      exact loop1 cc 0 (v % cc) (by omega) (Nat.mod_lt _ (by omega))
    · skip
      exact absurd rfl h1
  · subst hb
    have J89 : ∀ (q k : Nat), go 293 8 0 0 mL_speaks Q X 89 [.ref 0, .ref w, .int (iI 1), .int (iI (m : Nat)), .int (iI (v : Nat)), .int (iI (q : Nat)), .int (iI (k : Nat)), .null] [] (ow w ω (put 20 σ M)) := by
      intro q k
      refine go_iconst (y := mL_speaks) (pc := 89) dL_speaks_89 ?_
      refine go_ireturn (y := mL_speaks) (pc := 90) dL_speaks_90 rfl ?_
      exact K
    have J134 : ∀ (q k : Nat) (f : Int), q < a → σ 7 q = 0 → plc σ m = -1 → tkn σ m = -1 → (f = 0 ∨ f = 1) → go 293 8 0 0 mL_speaks Q X 134 [.ref 0, .ref w, .int (iI 1), .int (iI (m : Nat)), .int (iI (v : Nat)), .int (iI (q : Nat)), .int (iI (k : Nat)), .null] [.int (iI f)] (ow w ω (put 20 σ M)) := by
      intro q k f hq h7 hp ht hf
      have hoq : opn σ q := ⟨by omega, by omega, by rw [Int.toNat_natCast]; exact h7⟩
      have g0 : rfRq (su M) σ m q = 0 := by unfold rfRq; rw [if_pos ⟨⟨by omega, by omega⟩, by omega, by omega⟩, if_pos ⟨hoq, hp, ht⟩]
      rcases hf with hf | hf
      · subst hf
        refine go_istore (y := mL_speaks) (pc := 134) dL_speaks_134 (by decide) ?_
        refine go_aload_n (y := mL_speaks) (pc := 136) dL_speaks_136 rfl rfl ?_
        refine go_callV0 (y := mL_speaks) (pc := 137) (y' := mX11_requests) (kc2 := 0) (ks2 := 0) dL_speaks_137 ml_L_197 ok_X11_requests (ow_sh hw 0 (by decide)) ⟨_, _, rfl⟩ (by omega) trivial (by decide) (Nat.le_of_ble_eq_true rfl) rfl (o_requests hw hz hS hC hR ?_)
        refine go_top (b := ((k11 : Nat) : Int)) (h11) (fun t137 => ?_)
        refine go_istore (y := mL_speaks) (pc := 140) dL_speaks_140 (by decide) ?_
        refine go_aload_n (y := mL_speaks) (pc := 142) dL_speaks_142 rfl rfl ?_
        refine go_getR (y := mL_speaks) (pc := 143) dL_speaks_143 fl_L_273 (ow_sh hw 0 (by decide)) rfl (by omega) ?_
        refine go_iload (y := mL_speaks) (pc := 146) dL_speaks_146 rfl ?_
        refine go_iconst (y := mL_speaks) (pc := 148) dL_speaks_148 ?_
        refine go_iload_n (y := mL_speaks) (pc := 149) dL_speaks_149 rfl rfl ?_
        refine go_iadd (y := mL_speaks) (pc := 150) dL_speaks_150 ?_
        refine go_bipush (y := mL_speaks) (pc := 151) dL_speaks_151 (by decide) ?_
        refine go_iload (y := mL_speaks) (pc := 153) dL_speaks_153 rfl ?_
        refine go_imul (y := mL_speaks) (pc := 155) dL_speaks_155 ?_
        refine go_iadd (y := mL_speaks) (pc := 156) dL_speaks_156 ?_
        refine go_iload (y := mL_speaks) (pc := 157) dL_speaks_157 rfl ?_
        refine go_if_eq (y := mL_speaks) (pc := 159) (tgt := 168) dL_speaks_159 (by decide) (by omega) (fun h159 => ?_) (fun h159 => ?_)
        · skip
          refine go_iconst (y := mL_speaks) (pc := 168) dL_speaks_168 ?_
          refine go_iadd (y := mL_speaks) (pc := 169) dL_speaks_169 ?_
          refine go_wias (y := mL_speaks) (pc := 170) (r := 14) (k := k11) dL_speaks_170 hw (by decide) rfl hz rfl (by omega) (by decide) (by omega) ?_
          refine go_aload_n (y := mL_speaks) (pc := 171) dL_speaks_171 rfl rfl ?_
          refine go_iload_n (y := mL_speaks) (pc := 172) dL_speaks_172 rfl rfl ?_
          refine go_iload (y := mL_speaks) (pc := 173) dL_speaks_173 rfl ?_
          refine go_iload (y := mL_speaks) (pc := 175) dL_speaks_175 rfl ?_
          refine go_callV3 (y := mL_speaks) (pc := 177) (y' := mX10_request) (kc2 := 0) (ks2 := 0) dL_speaks_177 ml_L_276 ok_X10_request (show shp 0 = _ from rfl) ⟨_, _, rfl⟩ (by decide) ⟨rfl, rfl, rfl⟩ (by decide) (Nat.le_of_ble_eq_true rfl) rfl (r_request hw hB (m := m) (q := q) hm (by omega) (by omega) g0 (fun τ e177 => ?_))
          refine go_top (b := ((k11 : Nat) : Int)) (h11) (fun t177 => ?_)
          refine go_iload (y := mL_speaks) (pc := 180) dL_speaks_180 rfl ?_
          refine go_icmp_ne (y := mL_speaks) (pc := 182) (tgt := 189) dL_speaks_182 (by decide) (by omega) (by omega) (fun h182 => ?_) (fun h182 => ?_)
          · skip
            exact absurd rfl h182
          · skip
            refine go_iconst (y := mL_speaks) (pc := 185) dL_speaks_185 ?_
            refine go_goto (y := mL_speaks) (pc := 186) (tgt := 190) dL_speaks_186 (by decide) ?_
            refine go_ireturn (y := mL_speaks) (pc := 190) dL_speaks_190 rfl ?_
            exact K2 _ _ τ e177 (gd_rad (f := 0) hS hG h11 (Or.inl rfl) hm (by omega) h7 hp ht)
        · skip
          exact absurd rfl h159
      · subst hf
        refine go_istore (y := mL_speaks) (pc := 134) dL_speaks_134 (by decide) ?_
        refine go_aload_n (y := mL_speaks) (pc := 136) dL_speaks_136 rfl rfl ?_
        refine go_callV0 (y := mL_speaks) (pc := 137) (y' := mX11_requests) (kc2 := 0) (ks2 := 0) dL_speaks_137 ml_L_197 ok_X11_requests (ow_sh hw 0 (by decide)) ⟨_, _, rfl⟩ (by omega) trivial (by decide) (Nat.le_of_ble_eq_true rfl) rfl (o_requests hw hz hS hC hR ?_)
        refine go_top (b := ((k11 : Nat) : Int)) (h11) (fun t137 => ?_)
        refine go_istore (y := mL_speaks) (pc := 140) dL_speaks_140 (by decide) ?_
        refine go_aload_n (y := mL_speaks) (pc := 142) dL_speaks_142 rfl rfl ?_
        refine go_getR (y := mL_speaks) (pc := 143) dL_speaks_143 fl_L_273 (ow_sh hw 0 (by decide)) rfl (by omega) ?_
        refine go_iload (y := mL_speaks) (pc := 146) dL_speaks_146 rfl ?_
        refine go_iconst (y := mL_speaks) (pc := 148) dL_speaks_148 ?_
        refine go_iload_n (y := mL_speaks) (pc := 149) dL_speaks_149 rfl rfl ?_
        refine go_iadd (y := mL_speaks) (pc := 150) dL_speaks_150 ?_
        refine go_bipush (y := mL_speaks) (pc := 151) dL_speaks_151 (by decide) ?_
        refine go_iload (y := mL_speaks) (pc := 153) dL_speaks_153 rfl ?_
        refine go_imul (y := mL_speaks) (pc := 155) dL_speaks_155 ?_
        refine go_iadd (y := mL_speaks) (pc := 156) dL_speaks_156 ?_
        refine go_iload (y := mL_speaks) (pc := 157) dL_speaks_157 rfl ?_
        refine go_if_eq (y := mL_speaks) (pc := 159) (tgt := 168) dL_speaks_159 (by decide) (by omega) (fun h159 => ?_) (fun h159 => ?_)
        · skip
          exact absurd h159 (by decide)
        · skip
          refine go_sipush (y := mL_speaks) (pc := 162) dL_speaks_162 (by decide) ?_
          refine go_goto (y := mL_speaks) (pc := 165) (tgt := 169) dL_speaks_165 (by decide) ?_
          refine go_iadd (y := mL_speaks) (pc := 169) dL_speaks_169 ?_
          refine go_wias (y := mL_speaks) (pc := 170) (r := 14) (k := k11) dL_speaks_170 hw (by decide) rfl hz rfl (by omega) (by decide) (by omega) ?_
          refine go_aload_n (y := mL_speaks) (pc := 171) dL_speaks_171 rfl rfl ?_
          refine go_iload_n (y := mL_speaks) (pc := 172) dL_speaks_172 rfl rfl ?_
          refine go_iload (y := mL_speaks) (pc := 173) dL_speaks_173 rfl ?_
          refine go_iload (y := mL_speaks) (pc := 175) dL_speaks_175 rfl ?_
          refine go_callV3 (y := mL_speaks) (pc := 177) (y' := mX10_request) (kc2 := 0) (ks2 := 0) dL_speaks_177 ml_L_276 ok_X10_request (show shp 0 = _ from rfl) ⟨_, _, rfl⟩ (by decide) ⟨rfl, rfl, rfl⟩ (by decide) (Nat.le_of_ble_eq_true rfl) rfl (r_request hw hB (m := m) (q := q) hm (by omega) (by omega) g0 (fun τ e177 => ?_))
          refine go_top (b := ((k11 : Nat) : Int)) (h11) (fun t177 => ?_)
          refine go_iload (y := mL_speaks) (pc := 180) dL_speaks_180 rfl ?_
          refine go_icmp_ne (y := mL_speaks) (pc := 182) (tgt := 189) dL_speaks_182 (by decide) (by omega) (by omega) (fun h182 => ?_) (fun h182 => ?_)
          · skip
            exact absurd rfl h182
          · skip
            refine go_iconst (y := mL_speaks) (pc := 185) dL_speaks_185 ?_
            refine go_goto (y := mL_speaks) (pc := 186) (tgt := 190) dL_speaks_186 (by decide) ?_
            refine go_ireturn (y := mL_speaks) (pc := 190) dL_speaks_190 rfl ?_
            exact K2 _ _ τ e177 (gd_rad (f := 1) hS hG h11 (Or.inr rfl) hm (by omega) h7 hp ht)
    have J91 : ∀ (q k : Nat), q < a → σ 7 q = 0 → plc σ m = -1 → tkn σ m = -1 → go 293 8 0 0 mL_speaks Q X 91 [.ref 0, .ref w, .int (iI 1), .int (iI (m : Nat)), .int (iI (v : Nat)), .int (iI (q : Nat)), .int (iI (k : Nat)), .null] [] (ow w ω (put 20 σ M)) := by
      intro q k hq h7 hp ht
      have g1 := hln m q hq (by omega)
      have g2 := hlb m q hq (by omega)
      refine go_iload (y := mL_speaks) (pc := 91) dL_speaks_91 rfl ?_
      refine go_bipush (y := mL_speaks) (pc := 93) dL_speaks_93 (by decide) ?_
      refine go_iremN (y := mL_speaks) (pc := 95) (a := v) (b := 7) dL_speaks_95 (by omega) (by omega) (by omega) ?_
      refine go_if_ne (y := mL_speaks) (pc := 96) (tgt := 114) dL_speaks_96 (by decide) (by omega) (fun h96 => ?_) (fun h96 => ?_)
      · skip
        refine go_aload_n (y := mL_speaks) (pc := 114) dL_speaks_114 rfl rfl ?_
        refine go_getR (y := mL_speaks) (pc := 115) dL_speaks_115 fl_L_67 (ow_sh hw 0 (by decide)) rfl (by omega) ?_
        refine go_bipush (y := mL_speaks) (pc := 118) dL_speaks_118 (by decide) ?_
        refine go_iload_n (y := mL_speaks) (pc := 120) dL_speaks_120 rfl rfl ?_
        refine go_imul (y := mL_speaks) (pc := 121) dL_speaks_121 ?_
        refine go_iload (y := mL_speaks) (pc := 122) dL_speaks_122 rfl ?_
        refine go_iadd (y := mL_speaks) (pc := 124) dL_speaks_124 ?_
        refine go_wial (y := mL_speaks) (pc := 125) (r := 10) (k := ((16 * m) + q)) dL_speaks_125 hw (by decide) rfl hz (by omega) (by omega) (by decide) (fun r125 => ?_)
        refine go_top (b := ln σ m q) (g1) (fun t125 => ?_)
        refine go_if_le (y := mL_speaks) (pc := 126) (tgt := 133) dL_speaks_126 (by decide) (by omega) (fun h126 => ?_) (fun h126 => ?_)
        · skip
          refine go_iconst (y := mL_speaks) (pc := 133) dL_speaks_133 ?_
          exact J134 q k 0 hq h7 hp ht (by omega)
        · skip
          refine go_iconst (y := mL_speaks) (pc := 129) dL_speaks_129 ?_
          refine go_goto (y := mL_speaks) (pc := 130) (tgt := 134) dL_speaks_130 (by decide) ?_
          exact J134 q k 1 hq h7 hp ht (by omega)
      · skip
        refine go_iload (y := mL_speaks) (pc := 99) dL_speaks_99 rfl ?_
        refine go_iconst (y := mL_speaks) (pc := 101) dL_speaks_101 ?_
        refine go_iremN (y := mL_speaks) (pc := 102) (a := v) (b := 2) dL_speaks_102 (by omega) (by omega) (by omega) ?_
        refine go_if_ne (y := mL_speaks) (pc := 103) (tgt := 110) dL_speaks_103 (by decide) (by omega) (fun h103 => ?_) (fun h103 => ?_)
        · skip
          refine go_iconst (y := mL_speaks) (pc := 110) dL_speaks_110 ?_
          refine go_goto (y := mL_speaks) (pc := 111) (tgt := 134) dL_speaks_111 (by decide) ?_
          exact J134 q k 0 hq h7 hp ht (by omega)
        · skip
          refine go_iconst (y := mL_speaks) (pc := 106) dL_speaks_106 ?_
          refine go_goto (y := mL_speaks) (pc := 107) (tgt := 134) dL_speaks_107 (by decide) ?_
          exact J134 q k 1 hq h7 hp ht (by omega)
    have J56 : ∀ (q k : Nat), (0 < a → q < a) → go 293 8 0 0 mL_speaks Q X 56 [.ref 0, .ref w, .int (iI 1), .int (iI (m : Nat)), .int (iI (v : Nat)), .int (iI (q : Nat)), .int (iI (k : Nat)), .null] [] (ow w ω (put 20 σ M)) := by
      intro q k hq
      refine go_aload_n (y := mL_speaks) (pc := 56) dL_speaks_56 rfl rfl ?_
      refine go_wget (y := mL_speaks) (pc := 57) (r := 0) dL_speaks_57 fl_L_60 hw (by decide) rfl rfl hz (fun r57 => ?_)
      refine go_top (b := ((a : Nat) : Int)) (e9) (fun t57 => ?_)
      refine go_if_eq (y := mL_speaks) (pc := 60) (tgt := 89) dL_speaks_60 (by decide) (by omega) (fun h60 => ?_) (fun h60 => ?_)
      · skip
        exact J89 q k
      · skip
        have h7 := (hC.2.2.1 q (by omega)).2.2.1
        have h7b := (hC.2.2.1 q (by omega)).2.2.2.1
        refine go_aload_n (y := mL_speaks) (pc := 63) dL_speaks_63 rfl rfl ?_
        refine go_getR (y := mL_speaks) (pc := 64) dL_speaks_64 fl_L_120 (ow_sh hw 0 (by decide)) rfl (by omega) ?_
        refine go_iload (y := mL_speaks) (pc := 67) dL_speaks_67 rfl ?_
        refine go_wial (y := mL_speaks) (pc := 69) (r := 8) (k := q) dL_speaks_69 hw (by decide) rfl hz rfl (by omega) (by decide) (fun r69 => ?_)
        refine go_top (b := σ 7 q) (st q (by omega)) (fun t69 => ?_)
        refine go_if_gt (y := mL_speaks) (pc := 70) (tgt := 89) dL_speaks_70 (by decide) (by omega) (fun h70 => ?_) (fun h70 => ?_)
        · skip
          exact J89 q k
        · skip
          refine go_aload_n (y := mL_speaks) (pc := 73) dL_speaks_73 rfl rfl ?_
          refine go_iload_n (y := mL_speaks) (pc := 74) dL_speaks_74 rfl rfl ?_
          refine go_callV1 (y := mL_speaks) (pc := 75) (y' := mX11_listed) (kc2 := 0) (ks2 := 0) dL_speaks_75 ml_L_99 ok_X11_listed (ow_sh hw 0 (by decide)) ⟨_, _, rfl⟩ (by omega) rfl (by decide) (Nat.le_of_ble_eq_true rfl) rfl (o_listed hw hz hS hC hR (by omega) (fun v75 e75 b75 => ?_))
          refine go_if_ge (y := mL_speaks) (pc := 78) (tgt := 89) dL_speaks_78 (by decide) (by omega) (fun h78 => ?_) (fun h78 => ?_)
          · skip
            exact J89 q k
          · skip
            refine go_aload_n (y := mL_speaks) (pc := 81) dL_speaks_81 rfl rfl ?_
            refine go_iload_n (y := mL_speaks) (pc := 82) dL_speaks_82 rfl rfl ?_
            refine go_callV1 (y := mL_speaks) (pc := 83) (y' := mX11_chair) (kc2 := 0) (ks2 := 0) dL_speaks_83 ml_L_93 ok_X11_chair (ow_sh hw 0 (by decide)) ⟨_, _, rfl⟩ (by omega) rfl (by decide) (Nat.le_of_ble_eq_true rfl) rfl (o_chair hw hz hS hC hR (by omega) (by omega) (fun v83 e83 b83 => ?_))
            refine go_if_lt (y := mL_speaks) (pc := 86) (tgt := 91) dL_speaks_86 (by decide) (by omega) (fun h86 => ?_) (fun h86 => ?_)
            · skip
              exact J91 q k (by omega) (by omega) (by omega) (by omega)
            · skip
              exact J89 q k
    have loop : ∀ (j k q : Nat), k + j = a → (0 < a → q < a) → go 293 8 0 0 mL_speaks Q X 20 [.ref 0, .ref w, .int (iI 1), .int (iI (m : Nat)), .int (iI (v : Nat)), .int (iI (q : Nat)), .int (iI (k : Nat)), .null] [] (ow w ω (put 20 σ M)) := by
      intro j
      induction j with
      | zero =>
        intro k q hk hq
        refine go_iload (y := mL_speaks) (pc := 20) dL_speaks_20 rfl ?_
        refine go_aload_n (y := mL_speaks) (pc := 22) dL_speaks_22 rfl rfl ?_
        refine go_wget (y := mL_speaks) (pc := 23) (r := 0) dL_speaks_23 fl_L_60 hw (by decide) rfl rfl hz (fun r23 => ?_)
        refine go_top (b := ((a : Nat) : Int)) (e9) (fun t23 => ?_)
        refine go_icmp_ge (y := mL_speaks) (pc := 26) (tgt := 56) dL_speaks_26 (by decide) (by omega) (by omega) (fun h26 => ?_) (fun h26 => ?_)
        · skip
          exact J56 q k hq
        · skip
          exact absurd h26 (by omega)
      | succ j ih =>
        intro k q hk hq
        have h7 := (hC.2.2.1 q (by omega)).2.2.1
        have h7b := (hC.2.2.1 q (by omega)).2.2.2.1
        refine go_iload (y := mL_speaks) (pc := 20) dL_speaks_20 rfl ?_
        refine go_aload_n (y := mL_speaks) (pc := 22) dL_speaks_22 rfl rfl ?_
        refine go_wget (y := mL_speaks) (pc := 23) (r := 0) dL_speaks_23 fl_L_60 hw (by decide) rfl rfl hz (fun r23 => ?_)
        refine go_top (b := ((a : Nat) : Int)) (e9) (fun t23 => ?_)
        refine go_icmp_ge (y := mL_speaks) (pc := 26) (tgt := 56) dL_speaks_26 (by decide) (by omega) (by omega) (fun h26 => ?_) (fun h26 => ?_)
        · skip
          exact J56 q k hq
        · skip
          refine go_aload_n (y := mL_speaks) (pc := 29) dL_speaks_29 rfl rfl ?_
          refine go_getR (y := mL_speaks) (pc := 30) dL_speaks_30 fl_L_120 (ow_sh hw 0 (by decide)) rfl (by omega) ?_
          refine go_iload (y := mL_speaks) (pc := 33) dL_speaks_33 rfl ?_
          refine go_wial (y := mL_speaks) (pc := 35) (r := 8) (k := q) dL_speaks_35 hw (by decide) rfl hz rfl (by omega) (by decide) (fun r35 => ?_)
          refine go_top (b := σ 7 q) (st q (by omega)) (fun t35 => ?_)
          refine go_if_le (y := mL_speaks) (pc := 36) (tgt := 56) dL_speaks_36 (by decide) (by omega) (fun h36 => ?_) (fun h36 => ?_)
          · skip
            exact J56 q k hq
          · skip
            refine go_iload (y := mL_speaks) (pc := 39) dL_speaks_39 rfl ?_
            refine go_iconst (y := mL_speaks) (pc := 41) dL_speaks_41 ?_
            refine go_iadd (y := mL_speaks) (pc := 42) dL_speaks_42 ?_
            refine go_aload_n (y := mL_speaks) (pc := 43) dL_speaks_43 rfl rfl ?_
            refine go_wget (y := mL_speaks) (pc := 44) (r := 0) dL_speaks_44 fl_L_60 hw (by decide) rfl rfl hz (fun r44 => ?_)
            refine go_top (b := ((a : Nat) : Int)) (e9) (fun t44 => ?_)
            refine go_iremN (y := mL_speaks) (pc := 47) (a := (q + 1)) (b := a) dL_speaks_47 (by omega) (by omega) (by omega) ?_
            refine go_istore (y := mL_speaks) (pc := 48) dL_speaks_48 (by decide) ?_
            refine go_iinc (y := mL_speaks) (pc := 50) dL_speaks_50 rfl (by decide) ?_
            refine go_goto (y := mL_speaks) (pc := 53) (tgt := 20) dL_speaks_53 (by decide) ?_
            exact ih (k + 1) ((q + 1) % a) (by omega) (fun _ => Nat.mod_lt _ (by omega))
    refine go_iload_n (y := mL_speaks) (pc := 0) dL_speaks_0 rfl rfl ?_
    refine go_if_eq (y := mL_speaks) (pc := 1) (tgt := 191) dL_speaks_1 (by decide) (by omega) (fun h1 => ?_) (fun h1 => ?_)
    · skip
      exact absurd h1 (by decide)
    · skip
      refine go_iload (y := mL_speaks) (pc := 4) dL_speaks_4 rfl ?_
      refine go_iconst (y := mL_speaks) (pc := 6) dL_speaks_6 ?_
      refine go_aload_n (y := mL_speaks) (pc := 7) dL_speaks_7 rfl rfl ?_
      refine go_wget (y := mL_speaks) (pc := 8) (r := 0) dL_speaks_8 fl_L_60 hw (by decide) rfl rfl hz (fun r8 => ?_)
      refine go_top (b := ((a : Nat) : Int)) (e9) (fun t8 => ?_)
      refine go_mmax (y := mL_speaks) (pc := 11) dL_speaks_11 ml_L_268 (by decide) (Nat.le_of_ble_eq_true rfl) (by omega) (by omega) ?_
      refine go_top (b := ((max 1 a : Nat) : Int)) ((by omega)) (fun t11 => ?_)
      refine go_iremN (y := mL_speaks) (pc := 14) (a := v) (b := (max 1 a)) dL_speaks_14 (by omega) (by omega) (by omega) ?_
      refine go_istore (y := mL_speaks) (pc := 15) dL_speaks_15 (by decide) ?_
      refine go_iconst (y := mL_speaks) (pc := 17) dL_speaks_17 ?_
      refine go_istore (y := mL_speaks) (pc := 18) dL_speaks_18 (by decide) ?_
      exact loop a 0 (v % max 1 a) (by omega) (fun h => by have := Nat.mod_lt v (show 0 < max 1 a by omega); omega)
