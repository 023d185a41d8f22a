/-! A COPY of an Own: the numbers and rows -/
def zb (v : Int) : Int := (vp_nar .boolean (iI v)).toInt
theorem zb_i (v : Int) : iI (zb v) = vp_nar .boolean (iI v) := iI_as _
theorem zb_of {v : Int} (h : v = 0 ∨ v = 1) : zb v = v := by rcases h with h | h <;> subst h <;> decide
section ZG
variable {y : MI} {z d kc ks : Nat} {Q : Option Value → Mem → Prop} {X : String → Mem → Prop} {pc : Nat} {ls st : List Value} {μ ω : Mem} {c r : Nat}
theorem go_zastoreG {a n k : Nat} {i v : Int} {fs : List (Option Nat)} (hd : decode y.2.1 pc = .ok (.bastore, 1)) (hs : shp a = (2, n, fs)) (ha : a < z) (hi : i = (k : Int)) (hk : k < n) (hn : n < 4000) (K : go z d kc ks y Q X (pc + 1) ls st (wr μ a k (zb v))) : go z d kc ks y Q X pc ls (.int (iI v) :: .int (iI i) :: .ref a :: st) μ := by
  intro p l e R s m args below meth c D cy X0 mc ms nn ad hc H locs cells slots lsA dv hw hS hl h1 h2
  subst hi
  obtain ⟨hR, E, hE, hP, hD⟩ := id hw
  have hcc := id hc
  obtain ⟨c1, c2, c3, c4, c5, c6, c7, c8, c9, c10, c11⟩ := hcc
  have he : (wsl cy dv ad μ nn ++ E)[a]? = some (ad a, .inl (cy 1, n, .inl (fun j => iI (μ a j)))) := by rw [wsl_get (by omega), ent_2 hs]
  refine va_zast c1 c2 c8.1 hP hD hS a 1 he rfl (iI_in hk (by omega)) hd (fun H1 locs1 hP1 hD1 hS1 => ?_)
  rw [iI_clamp (by omega), ← zb_i, upd_wr] at hP1 hD1
  exact go_use K hc (wd_put hR hE (rng_t _) (by omega) c10 (ent_2 hs).symm hP1 hD1) hS1 hl h1 h2
theorem go_wzasG {n k : Nat} {i v : Int} {fs : List (Option Nat)} (hd : decode y.2.1 pc = .ok (.bastore, 1)) (hc : is_ow c) (hr : r < 17) (hs : own_shp c r = (2, n, fs)) (hz : c + 17 ≤ z) (hi : i = (k : Int)) (hk : k < n) (hn : n < 4000) (K : go z d kc ks y Q X (pc + 1) ls st (ow c (wr ω r k (zb v)) μ)) : go z d kc ks y Q X pc ls (.int (iI v) :: .int (iI i) :: .ref (c + r) :: st) (ow c ω μ) :=
  go_zastoreG hd ((ow_sh hc r hr).trans hs) (by omega) hi hk hn (by rw [ow_w hr]; exact K)
theorem go_areturn {a : Nat} {rt : FieldType} (hd : decode y.2.1 pc = .ok (.areturn, 1)) (hr : y.2.2.2.1 = some rt) (hn : (∃ n, rt = .object n) ∨ ∃ t, rt = .array t) (K : Q (some (.ref a)) μ) : go z d kc ks y Q X pc ls [.ref a] μ := by
  intro p l e R s m args below meth c D cy X0 mc ms nn ad hc H locs cells slots lsA dv hw hS hl h1 h2
  obtain ⟨c1, c2, c3, c4, c5, c6, c7, c8, c9, c10, c11⟩ := hc
  refine W.widen (k := mc) (n := ms) (by omega) (by omega) (vx_ret ?_)
  exact W.aret (v := .ref (ad a)) c1 c2 (c3.trans hr) hn (Or.inr ⟨_, rfl⟩) (fun t ht hW => ⟨⟨some (.ref a), μ, dv, rfl, K, by rw [ht]; exact hw⟩, hS.F ht⟩) hS.2.2 hd c7
end ZG
/-- what of an Own is read -/
def cpO (b1 b2 b3 b4 b5 r j : Nat) : Prop := (r = 0 ∧ j < 17) ∨ ((1 ≤ r ∧ r ≤ 5) ∧ j < b1) ∨ ((6 ≤ r ∧ r ≤ 9) ∧ j < b2) ∨ (r = 10 ∧ j < b3) ∨ ((11 ≤ r ∧ r ≤ 13) ∧ j < b4) ∨ (r = 14 ∧ j < b5) ∨ ((r = 15 ∨ r = 16) ∧ j < b4)
def srcO (ν : Mem) : Mem := fun r j => if r = 15 ∨ r = 16 then zb (ν (276 + r) j) else ν (276 + r) j
theorem src_n {ν : Mem} {r j : Nat} (h : r ≠ 15 ∧ r ≠ 16) : srcO ν r j = ν (276 + r) j := if_neg (by omega)
theorem src_z {ν : Mem} {r j : Nat} (h : r = 15 ∨ r = 16) : srcO ν r j = zb (ν (276 + r) j) := if_pos h
theorem own_cp {S s ω ν : Mem} (hS : wfS S) (hC : wfC S s) (h : own S s (vw 276 ν)) (e : ∀ r j, cpO 12 16 192 4 13 r j → ω r j = srcO ν r j) : own S s ω := by
  have n1 := wf_n hS
  have r1 := wf_r hS hC
  have g (r j : Nat) (hr : cpO 12 16 192 4 13 r j) (h5 : r ≠ 15 ∧ r ≠ 16) : ω r j = vw 276 ν r j := (e r j hr).trans (src_n h5)
  obtain ⟨a, b, c, d, f, q⟩ := h
  refine ⟨?_, fun i hi => ?_, fun i hi => ?_, fun i h1 h2 => ?_, fun i hi => ?_, fun i hi => ?_⟩
  · have g0 (j : Nat) (hj : j < 17) : ω 0 j = vw 276 ν 0 j := g 0 j (by unfold cpO; omega) (by decide)
    rw [g0 0 (by decide), g0 1 (by decide), g0 2 (by decide), g0 3 (by decide), g0 4 (by decide), g0 5 (by decide), g0 6 (by decide), g0 7 (by decide), g0 8 (by decide), g0 9 (by decide), g0 10 (by decide), g0 11 (by decide), g0 12 (by decide), g0 13 (by decide)]
    exact a
  · rw [g 1 i (by unfold cpO; omega) (by decide), g 2 i (by unfold cpO; omega) (by decide), g 3 i (by unfold cpO; omega) (by decide), g 4 i (by unfold cpO; omega) (by decide), g 5 i (by unfold cpO; omega) (by decide)]
    exact b i hi
  · rw [g 6 i (by unfold cpO; omega) (by decide), g 7 i (by unfold cpO; omega) (by decide), g 8 i (by unfold cpO; omega) (by decide), g 9 i (by unfold cpO; omega) (by decide)]
    have := c i hi
    exact ⟨this.1, this.2.1, this.2.2.1, this.2.2.2.1, fun m hm => by rw [g 10 _ (by unfold cpO; omega) (by decide)]; exact this.2.2.2.2 m hm⟩
  · rw [g 7 i (by unfold cpO; omega) (by decide), g 8 i (by unfold cpO; omega) (by decide), g 9 i (by unfold cpO; omega) (by decide)]
    exact d i h1 h2
  · rw [g 11 i (by unfold cpO; omega) (by decide), g 12 i (by unfold cpO; omega) (by decide), g 13 i (by unfold cpO; omega) (by decide), e 15 i (by unfold cpO; omega), e 16 i (by unfold cpO; omega), src_z (Or.inl rfl), src_z (Or.inr rfl)]
    have h0 := f i hi
    refine ⟨h0.1, fun w => ?_⟩
    have h1 := h0.2 w
    have hx := hC.2.2.2.2.2 i hi
    refine ⟨h1.1, h1.2.1, ?_, ?_⟩
    · rw [show ν (276 + 15) i = if s 18 i = 1 then 1 else 0 from h1.2.2.1, zb_of (by split <;> omega)]
    · rw [show ν (276 + 16) i = s 20 i from h1.2.2.2, zb_of (by omega)]
  · rw [g 14 i (by unfold cpO; omega) (by decide)]
    exact q i hi
set_option maxRecDepth 8000 in
set_option maxHeartbeats 4000000 in
theorem o_cp406 {Q : Option Value → Mem → Prop} {X : String → Mem → Prop} {w : Nat} (h293 : w = 293) {ν : Mem} (K : ∀ ω', (∀ r j, cpO 12 16 192 4 13 r j → ω' r j = srcO ν r j) → Q (some (.ref w)) (ow w ω' ν)) (τ : Mem) (k : Nat) (hI : ∀ r i, cpO 12 16 192 4 13 r i → τ r i = srcO ν r i) : go 310 3 0 0 mX11_copy Q X 406 [.ref 276, .ref w, .int (iI (k : Nat))] [] (ow w τ ν) := by
  have hw : is_ow w := Or.inr h293
  have hz : w + 17 ≤ 310 := by omega
  refine go_aload_n (y := mX11_copy) (pc := 406) dX11_copy_406 rfl rfl ?_
  refine go_areturn (y := mX11_copy) (pc := 407) dX11_copy_407 rfl (Or.inl ⟨_, rfl⟩) ?_
  exact K τ hI
set_option maxRecDepth 8000 in
set_option maxHeartbeats 4000000 in
theorem o_cp5 {Q : Option Value → Mem → Prop} {X : String → Mem → Prop} {w : Nat} (h293 : w = 293) {ν : Mem} (K : ∀ ω', (∀ r j, cpO 12 16 192 4 13 r j → ω' r j = srcO ν r j) → Q (some (.ref w)) (ow w ω' ν)) : ∀ (j k : Nat) (τ : Mem), k + j = 13 → (∀ r i, cpO 12 16 192 4 k r i → τ r i = srcO ν r i) → go 310 3 0 0 mX11_copy Q X 382 [.ref 276, .ref w, .int (iI (k : Nat))] [] (ow w τ ν) := by
  have hw : is_ow w := Or.inr h293
  have hz : w + 17 ≤ 310 := by omega
  intro j
  induction j with
  | zero =>
    intro k τ hk hI
    have e : k = 13 := by omega
    subst e
    refine go_iload_n (y := mX11_copy) (pc := 382) dX11_copy_382 rfl rfl ?_
    refine go_bipush (y := mX11_copy) (pc := 383) dX11_copy_383 (by decide) ?_
    refine go_icmp_ge (y := mX11_copy) (pc := 385) (tgt := 406) dX11_copy_385 (by decide) (by omega) (by omega) (fun h385 => ?_) (fun h385 => ?_)
    · skip
      exact o_cp406 h293 K τ 13 hI
    · skip
      exact absurd h385 (by decide)
  | succ j ih =>
    intro k τ hk hI
    refine go_iload_n (y := mX11_copy) (pc := 382) dX11_copy_382 rfl rfl ?_
    refine go_bipush (y := mX11_copy) (pc := 383) dX11_copy_383 (by decide) ?_
    refine go_icmp_ge (y := mX11_copy) (pc := 385) (tgt := 406) dX11_copy_385 (by decide) (by omega) (by omega) (fun h385 => ?_) (fun h385 => ?_)
    · skip
      exact absurd h385 (by omega)
    · skip
      refine go_aload_n (y := mX11_copy) (pc := 388) dX11_copy_388 rfl rfl ?_
      refine go_getR (y := mX11_copy) (pc := 389) dX11_copy_389 fl_X11_49 (ow_sh hw 0 (by decide)) rfl (by omega) ?_
      refine go_iload_n (y := mX11_copy) (pc := 392) dX11_copy_392 rfl rfl ?_
      refine go_aload_n (y := mX11_copy) (pc := 393) dX11_copy_393 rfl rfl ?_
      refine go_getR (y := mX11_copy) (pc := 394) dX11_copy_394 fl_X11_49 rfl rfl (by decide) ?_
      refine go_iload_n (y := mX11_copy) (pc := 397) dX11_copy_397 rfl rfl ?_
      refine go_iaload (y := mX11_copy) (pc := 398) (k := k) dX11_copy_398 rfl (by decide) rfl (by omega) (by decide) (fun r398 => ?_)
      refine go_top (b := ν 290 k) (ow_o (by omega)) (fun t398 => ?_)
      refine go_wias (y := mX11_copy) (pc := 399) (r := 14) (k := k) dX11_copy_399 hw (by decide) rfl hz rfl (by omega) (by decide) (by omega) ?_
      refine go_iinc (y := mX11_copy) (pc := 400) dX11_copy_400 rfl (by decide) ?_
      refine go_goto (y := mX11_copy) (pc := 403) (tgt := 382) dX11_copy_403 (by decide) ?_
      refine ih (k + 1) _ (by omega) (fun r i hr => ?_)
      clear ih
      unfold cpO at hr hI
      unfold wr
      (repeat' split)
      · rename_i g; rw [g.1, g.2]; exact (src_n (ν := ν) (r := 14) (j := k) (by decide)).symm
      · rcases hr with h | h | h | h | h | h | h
        · exact hI r i (Or.inl h)
        · exact hI r i (Or.inr (Or.inl h))
        · exact hI r i (Or.inr (Or.inr (Or.inl h)))
        · exact hI r i (Or.inr (Or.inr (Or.inr (Or.inl h))))
        · exact hI r i (Or.inr (Or.inr (Or.inr (Or.inr (Or.inl h)))))
        · exact hI r i (Or.inr (Or.inr (Or.inr (Or.inr (Or.inr (Or.inl ⟨h.1, by have h1 := h.1; have h2 := h.2; omega⟩))))))
        · exact hI r i (Or.inr (Or.inr (Or.inr (Or.inr (Or.inr (Or.inr (h)))))))
set_option maxRecDepth 8000 in
set_option maxHeartbeats 4000000 in
theorem o_cp380 {Q : Option Value → Mem → Prop} {X : String → Mem → Prop} {w : Nat} (h293 : w = 293) {ν : Mem} (K : ∀ ω', (∀ r j, cpO 12 16 192 4 13 r j → ω' r j = srcO ν r j) → Q (some (.ref w)) (ow w ω' ν)) (τ : Mem) (k : Nat) (hI : ∀ r i, cpO 12 16 192 4 0 r i → τ r i = srcO ν r i) : go 310 3 0 0 mX11_copy Q X 380 [.ref 276, .ref w, .int (iI (k : Nat))] [] (ow w τ ν) := by
  have hw : is_ow w := Or.inr h293
  have hz : w + 17 ≤ 310 := by omega
  refine go_iconst (y := mX11_copy) (pc := 380) dX11_copy_380 ?_
  refine go_istore_n (y := mX11_copy) (pc := 381) dX11_copy_381 rfl (by decide) ?_
  exact o_cp5 h293 K 13 0 τ (by omega) hI
set_option maxRecDepth 8000 in
set_option maxHeartbeats 4000000 in
theorem o_cp4 {Q : Option Value → Mem → Prop} {X : String → Mem → Prop} {w : Nat} (h293 : w = 293) {ν : Mem} (K : ∀ ω', (∀ r j, cpO 12 16 192 4 13 r j → ω' r j = srcO ν r j) → Q (some (.ref w)) (ow w ω' ν)) : ∀ (j k : Nat) (τ : Mem), k + j = 4 → (∀ r i, cpO 12 16 192 k 0 r i → τ r i = srcO ν r i) → go 310 3 0 0 mX11_copy Q X 309 [.ref 276, .ref w, .int (iI (k : Nat))] [] (ow w τ ν) := by
  have hw : is_ow w := Or.inr h293
  have hz : w + 17 ≤ 310 := by omega
  intro j
  induction j with
  | zero =>
    intro k τ hk hI
    have e : k = 4 := by omega
    subst e
    refine go_iload_n (y := mX11_copy) (pc := 309) dX11_copy_309 rfl rfl ?_
    refine go_iconst (y := mX11_copy) (pc := 310) dX11_copy_310 ?_
    refine go_icmp_ge (y := mX11_copy) (pc := 311) (tgt := 380) dX11_copy_311 (by decide) (by omega) (by omega) (fun h311 => ?_) (fun h311 => ?_)
    · skip
      exact o_cp380 h293 K τ 4 hI
    · skip
      exact absurd h311 (by decide)
  | succ j ih =>
    intro k τ hk hI
    refine go_iload_n (y := mX11_copy) (pc := 309) dX11_copy_309 rfl rfl ?_
    refine go_iconst (y := mX11_copy) (pc := 310) dX11_copy_310 ?_
    refine go_icmp_ge (y := mX11_copy) (pc := 311) (tgt := 380) dX11_copy_311 (by decide) (by omega) (by omega) (fun h311 => ?_) (fun h311 => ?_)
    · skip
      exact absurd h311 (by omega)
    · skip
      refine go_aload_n (y := mX11_copy) (pc := 314) dX11_copy_314 rfl rfl ?_
      refine go_getR (y := mX11_copy) (pc := 315) dX11_copy_315 fl_X11_40 (ow_sh hw 0 (by decide)) rfl (by omega) ?_
      refine go_iload_n (y := mX11_copy) (pc := 318) dX11_copy_318 rfl rfl ?_
      refine go_aload_n (y := mX11_copy) (pc := 319) dX11_copy_319 rfl rfl ?_
      refine go_getR (y := mX11_copy) (pc := 320) dX11_copy_320 fl_X11_40 rfl rfl (by decide) ?_
      refine go_iload_n (y := mX11_copy) (pc := 323) dX11_copy_323 rfl rfl ?_
      refine go_iaload (y := mX11_copy) (pc := 324) (k := k) dX11_copy_324 rfl (by decide) rfl (by omega) (by decide) (fun r324 => ?_)
      refine go_top (b := ν 287 k) (ow_o (by omega)) (fun t324 => ?_)
      refine go_wias (y := mX11_copy) (pc := 325) (r := 11) (k := k) dX11_copy_325 hw (by decide) rfl hz rfl (by omega) (by decide) (by omega) ?_
      refine go_aload_n (y := mX11_copy) (pc := 326) dX11_copy_326 rfl rfl ?_
      refine go_getR (y := mX11_copy) (pc := 327) dX11_copy_327 fl_X11_43 (ow_sh hw 0 (by decide)) rfl (by omega) ?_
      refine go_iload_n (y := mX11_copy) (pc := 330) dX11_copy_330 rfl rfl ?_
      refine go_aload_n (y := mX11_copy) (pc := 331) dX11_copy_331 rfl rfl ?_
      refine go_getR (y := mX11_copy) (pc := 332) dX11_copy_332 fl_X11_43 rfl rfl (by decide) ?_
      refine go_iload_n (y := mX11_copy) (pc := 335) dX11_copy_335 rfl rfl ?_
      refine go_iaload (y := mX11_copy) (pc := 336) (k := k) dX11_copy_336 rfl (by decide) rfl (by omega) (by decide) (fun r336 => ?_)
      refine go_top (b := ν 288 k) (ow_o (by omega)) (fun t336 => ?_)
      refine go_wias (y := mX11_copy) (pc := 337) (r := 12) (k := k) dX11_copy_337 hw (by decide) rfl hz rfl (by omega) (by decide) (by omega) ?_
      refine go_aload_n (y := mX11_copy) (pc := 338) dX11_copy_338 rfl rfl ?_
      refine go_getR (y := mX11_copy) (pc := 339) dX11_copy_339 fl_X11_46 (ow_sh hw 0 (by decide)) rfl (by omega) ?_
      refine go_iload_n (y := mX11_copy) (pc := 342) dX11_copy_342 rfl rfl ?_
      refine go_aload_n (y := mX11_copy) (pc := 343) dX11_copy_343 rfl rfl ?_
      refine go_getR (y := mX11_copy) (pc := 344) dX11_copy_344 fl_X11_46 rfl rfl (by decide) ?_
      refine go_iload_n (y := mX11_copy) (pc := 347) dX11_copy_347 rfl rfl ?_
      refine go_iaload (y := mX11_copy) (pc := 348) (k := k) dX11_copy_348 rfl (by decide) rfl (by omega) (by decide) (fun r348 => ?_)
      refine go_top (b := ν 289 k) (ow_o (by omega)) (fun t348 => ?_)
      refine go_wias (y := mX11_copy) (pc := 349) (r := 13) (k := k) dX11_copy_349 hw (by decide) rfl hz rfl (by omega) (by decide) (by omega) ?_
      refine go_aload_n (y := mX11_copy) (pc := 350) dX11_copy_350 rfl rfl ?_
      refine go_getR (y := mX11_copy) (pc := 351) dX11_copy_351 fl_X11_52 (ow_sh hw 0 (by decide)) rfl (by omega) ?_
      refine go_iload_n (y := mX11_copy) (pc := 354) dX11_copy_354 rfl rfl ?_
      refine go_aload_n (y := mX11_copy) (pc := 355) dX11_copy_355 rfl rfl ?_
      refine go_getR (y := mX11_copy) (pc := 356) dX11_copy_356 fl_X11_52 rfl rfl (by decide) ?_
      refine go_iload_n (y := mX11_copy) (pc := 359) dX11_copy_359 rfl rfl ?_
      refine go_zaload (y := mX11_copy) (pc := 360) (k := k) dX11_copy_360 rfl (by decide) rfl (by omega) (by decide) (fun r360 => ?_)
      refine go_top (b := ν 291 k) (ow_o (by omega)) (fun t360 => ?_)
      refine go_wzasG (y := mX11_copy) (pc := 361) (r := 15) (k := k) dX11_copy_361 hw (by decide) rfl hz rfl (by omega) (by decide) ?_
      refine go_aload_n (y := mX11_copy) (pc := 362) dX11_copy_362 rfl rfl ?_
      refine go_getR (y := mX11_copy) (pc := 363) dX11_copy_363 fl_X11_56 (ow_sh hw 0 (by decide)) rfl (by omega) ?_
      refine go_iload_n (y := mX11_copy) (pc := 366) dX11_copy_366 rfl rfl ?_
      refine go_aload_n (y := mX11_copy) (pc := 367) dX11_copy_367 rfl rfl ?_
      refine go_getR (y := mX11_copy) (pc := 368) dX11_copy_368 fl_X11_56 rfl rfl (by decide) ?_
      refine go_iload_n (y := mX11_copy) (pc := 371) dX11_copy_371 rfl rfl ?_
      refine go_zaload (y := mX11_copy) (pc := 372) (k := k) dX11_copy_372 rfl (by decide) rfl (by omega) (by decide) (fun r372 => ?_)
      refine go_top (b := ν 292 k) (ow_o (by omega)) (fun t372 => ?_)
      refine go_wzasG (y := mX11_copy) (pc := 373) (r := 16) (k := k) dX11_copy_373 hw (by decide) rfl hz rfl (by omega) (by decide) ?_
      refine go_iinc (y := mX11_copy) (pc := 374) dX11_copy_374 rfl (by decide) ?_
      refine go_goto (y := mX11_copy) (pc := 377) (tgt := 309) dX11_copy_377 (by decide) ?_
      refine ih (k + 1) _ (by omega) (fun r i hr => ?_)
      clear ih
      unfold cpO at hr hI
      unfold wr
      (repeat' split)
      · rename_i g; rw [g.1, g.2]; exact (src_z (ν := ν) (r := 16) (j := k) (by decide)).symm
      · rename_i g; rw [g.1, g.2]; exact (src_z (ν := ν) (r := 15) (j := k) (by decide)).symm
      · rename_i g; rw [g.1, g.2]; exact (src_n (ν := ν) (r := 13) (j := k) (by decide)).symm
      · rename_i g; rw [g.1, g.2]; exact (src_n (ν := ν) (r := 12) (j := k) (by decide)).symm
      · rename_i g; rw [g.1, g.2]; exact (src_n (ν := ν) (r := 11) (j := k) (by decide)).symm
      · rcases hr with h | h | h | h | h | h | h
        · exact hI r i (Or.inl h)
        · exact hI r i (Or.inr (Or.inl h))
        · exact hI r i (Or.inr (Or.inr (Or.inl h)))
        · exact hI r i (Or.inr (Or.inr (Or.inr (Or.inl h))))
        · exact hI r i (Or.inr (Or.inr (Or.inr (Or.inr (Or.inl ⟨h.1, by have h1 := h.1; have h2 := h.2; omega⟩)))))
        · exact hI r i (Or.inr (Or.inr (Or.inr (Or.inr (Or.inr (Or.inl h))))))
        · exact hI r i (Or.inr (Or.inr (Or.inr (Or.inr (Or.inr (Or.inr (⟨h.1, by have h1 := h.1; have h2 := h.2; omega⟩)))))))
set_option maxRecDepth 8000 in
set_option maxHeartbeats 4000000 in
theorem o_cp307 {Q : Option Value → Mem → Prop} {X : String → Mem → Prop} {w : Nat} (h293 : w = 293) {ν : Mem} (K : ∀ ω', (∀ r j, cpO 12 16 192 4 13 r j → ω' r j = srcO ν r j) → Q (some (.ref w)) (ow w ω' ν)) (τ : Mem) (k : Nat) (hI : ∀ r i, cpO 12 16 192 0 0 r i → τ r i = srcO ν r i) : go 310 3 0 0 mX11_copy Q X 307 [.ref 276, .ref w, .int (iI (k : Nat))] [] (ow w τ ν) := by
  have hw : is_ow w := Or.inr h293
  have hz : w + 17 ≤ 310 := by omega
  refine go_iconst (y := mX11_copy) (pc := 307) dX11_copy_307 ?_
  refine go_istore_n (y := mX11_copy) (pc := 308) dX11_copy_308 rfl (by decide) ?_
  exact o_cp4 h293 K 4 0 τ (by omega) hI
set_option maxRecDepth 8000 in
set_option maxHeartbeats 4000000 in
theorem o_cp3 {Q : Option Value → Mem → Prop} {X : String → Mem → Prop} {w : Nat} (h293 : w = 293) {ν : Mem} (K : ∀ ω', (∀ r j, cpO 12 16 192 4 13 r j → ω' r j = srcO ν r j) → Q (some (.ref w)) (ow w ω' ν)) : ∀ (j k : Nat) (τ : Mem), k + j = 192 → (∀ r i, cpO 12 16 k 0 0 r i → τ r i = srcO ν r i) → go 310 3 0 0 mX11_copy Q X 282 [.ref 276, .ref w, .int (iI (k : Nat))] [] (ow w τ ν) := by
  have hw : is_ow w := Or.inr h293
  have hz : w + 17 ≤ 310 := by omega
  intro j
  induction j with
  | zero =>
    intro k τ hk hI
    have e : k = 192 := by omega
    subst e
    refine go_iload_n (y := mX11_copy) (pc := 282) dX11_copy_282 rfl rfl ?_
    refine go_sipush (y := mX11_copy) (pc := 283) dX11_copy_283 (by decide) ?_
    refine go_icmp_ge (y := mX11_copy) (pc := 286) (tgt := 307) dX11_copy_286 (by decide) (by omega) (by omega) (fun h286 => ?_) (fun h286 => ?_)
    · skip
      exact o_cp307 h293 K τ 192 hI
    · skip
      exact absurd h286 (by decide)
  | succ j ih =>
    intro k τ hk hI
    refine go_iload_n (y := mX11_copy) (pc := 282) dX11_copy_282 rfl rfl ?_
    refine go_sipush (y := mX11_copy) (pc := 283) dX11_copy_283 (by decide) ?_
    refine go_icmp_ge (y := mX11_copy) (pc := 286) (tgt := 307) dX11_copy_286 (by decide) (by omega) (by omega) (fun h286 => ?_) (fun h286 => ?_)
    · skip
      exact absurd h286 (by omega)
    · skip
      refine go_aload_n (y := mX11_copy) (pc := 289) dX11_copy_289 rfl rfl ?_
      refine go_getR (y := mX11_copy) (pc := 290) dX11_copy_290 fl_X11_37 (ow_sh hw 0 (by decide)) rfl (by omega) ?_
      refine go_iload_n (y := mX11_copy) (pc := 293) dX11_copy_293 rfl rfl ?_
      refine go_aload_n (y := mX11_copy) (pc := 294) dX11_copy_294 rfl rfl ?_
      refine go_getR (y := mX11_copy) (pc := 295) dX11_copy_295 fl_X11_37 rfl rfl (by decide) ?_
      refine go_iload_n (y := mX11_copy) (pc := 298) dX11_copy_298 rfl rfl ?_
      refine go_iaload (y := mX11_copy) (pc := 299) (k := k) dX11_copy_299 rfl (by decide) rfl (by omega) (by decide) (fun r299 => ?_)
      refine go_top (b := ν 286 k) (ow_o (by omega)) (fun t299 => ?_)
      refine go_wias (y := mX11_copy) (pc := 300) (r := 10) (k := k) dX11_copy_300 hw (by decide) rfl hz rfl (by omega) (by decide) (by omega) ?_
      refine go_iinc (y := mX11_copy) (pc := 301) dX11_copy_301 rfl (by decide) ?_
      refine go_goto (y := mX11_copy) (pc := 304) (tgt := 282) dX11_copy_304 (by decide) ?_
      refine ih (k + 1) _ (by omega) (fun r i hr => ?_)
      clear ih
      unfold cpO at hr hI
      unfold wr
      (repeat' split)
      · rename_i g; rw [g.1, g.2]; exact (src_n (ν := ν) (r := 10) (j := k) (by decide)).symm
      · rcases hr with h | h | h | h | h | h | h
        · exact hI r i (Or.inl h)
        · exact hI r i (Or.inr (Or.inl h))
        · exact hI r i (Or.inr (Or.inr (Or.inl h)))
        · exact hI r i (Or.inr (Or.inr (Or.inr (Or.inl ⟨h.1, by have h1 := h.1; have h2 := h.2; omega⟩))))
        · exact hI r i (Or.inr (Or.inr (Or.inr (Or.inr (Or.inl h)))))
        · exact hI r i (Or.inr (Or.inr (Or.inr (Or.inr (Or.inr (Or.inl h))))))
        · exact hI r i (Or.inr (Or.inr (Or.inr (Or.inr (Or.inr (Or.inr (h)))))))
set_option maxRecDepth 8000 in
set_option maxHeartbeats 4000000 in
theorem o_cp280 {Q : Option Value → Mem → Prop} {X : String → Mem → Prop} {w : Nat} (h293 : w = 293) {ν : Mem} (K : ∀ ω', (∀ r j, cpO 12 16 192 4 13 r j → ω' r j = srcO ν r j) → Q (some (.ref w)) (ow w ω' ν)) (τ : Mem) (k : Nat) (hI : ∀ r i, cpO 12 16 0 0 0 r i → τ r i = srcO ν r i) : go 310 3 0 0 mX11_copy Q X 280 [.ref 276, .ref w, .int (iI (k : Nat))] [] (ow w τ ν) := by
  have hw : is_ow w := Or.inr h293
  have hz : w + 17 ≤ 310 := by omega
  refine go_iconst (y := mX11_copy) (pc := 280) dX11_copy_280 ?_
  refine go_istore_n (y := mX11_copy) (pc := 281) dX11_copy_281 rfl (by decide) ?_
  exact o_cp3 h293 K 192 0 τ (by omega) hI
set_option maxRecDepth 8000 in
set_option maxHeartbeats 4000000 in
theorem o_cp2 {Q : Option Value → Mem → Prop} {X : String → Mem → Prop} {w : Nat} (h293 : w = 293) {ν : Mem} (K : ∀ ω', (∀ r j, cpO 12 16 192 4 13 r j → ω' r j = srcO ν r j) → Q (some (.ref w)) (ow w ω' ν)) : ∀ (j k : Nat) (τ : Mem), k + j = 16 → (∀ r i, cpO 12 k 0 0 0 r i → τ r i = srcO ν r i) → go 310 3 0 0 mX11_copy Q X 220 [.ref 276, .ref w, .int (iI (k : Nat))] [] (ow w τ ν) := by
  have hw : is_ow w := Or.inr h293
  have hz : w + 17 ≤ 310 := by omega
  intro j
  induction j with
  | zero =>
    intro k τ hk hI
    have e : k = 16 := by omega
    subst e
    refine go_iload_n (y := mX11_copy) (pc := 220) dX11_copy_220 rfl rfl ?_
    refine go_bipush (y := mX11_copy) (pc := 221) dX11_copy_221 (by decide) ?_
    refine go_icmp_ge (y := mX11_copy) (pc := 223) (tgt := 280) dX11_copy_223 (by decide) (by omega) (by omega) (fun h223 => ?_) (fun h223 => ?_)
    · skip
      exact o_cp280 h293 K τ 16 hI
    · skip
      exact absurd h223 (by decide)
  | succ j ih =>
    intro k τ hk hI
    refine go_iload_n (y := mX11_copy) (pc := 220) dX11_copy_220 rfl rfl ?_
    refine go_bipush (y := mX11_copy) (pc := 221) dX11_copy_221 (by decide) ?_
    refine go_icmp_ge (y := mX11_copy) (pc := 223) (tgt := 280) dX11_copy_223 (by decide) (by omega) (by omega) (fun h223 => ?_) (fun h223 => ?_)
    · skip
      exact absurd h223 (by omega)
    · skip
      refine go_aload_n (y := mX11_copy) (pc := 226) dX11_copy_226 rfl rfl ?_
      refine go_getR (y := mX11_copy) (pc := 227) dX11_copy_227 fl_X11_25 (ow_sh hw 0 (by decide)) rfl (by omega) ?_
      refine go_iload_n (y := mX11_copy) (pc := 230) dX11_copy_230 rfl rfl ?_
      refine go_aload_n (y := mX11_copy) (pc := 231) dX11_copy_231 rfl rfl ?_
      refine go_getR (y := mX11_copy) (pc := 232) dX11_copy_232 fl_X11_25 rfl rfl (by decide) ?_
      refine go_iload_n (y := mX11_copy) (pc := 235) dX11_copy_235 rfl rfl ?_
      refine go_iaload (y := mX11_copy) (pc := 236) (k := k) dX11_copy_236 rfl (by decide) rfl (by omega) (by decide) (fun r236 => ?_)
      refine go_top (b := ν 282 k) (ow_o (by omega)) (fun t236 => ?_)
      refine go_wias (y := mX11_copy) (pc := 237) (r := 6) (k := k) dX11_copy_237 hw (by decide) rfl hz rfl (by omega) (by decide) (by omega) ?_
      refine go_aload_n (y := mX11_copy) (pc := 238) dX11_copy_238 rfl rfl ?_
      refine go_getR (y := mX11_copy) (pc := 239) dX11_copy_239 fl_X11_28 (ow_sh hw 0 (by decide)) rfl (by omega) ?_
      refine go_iload_n (y := mX11_copy) (pc := 242) dX11_copy_242 rfl rfl ?_
      refine go_aload_n (y := mX11_copy) (pc := 243) dX11_copy_243 rfl rfl ?_
      refine go_getR (y := mX11_copy) (pc := 244) dX11_copy_244 fl_X11_28 rfl rfl (by decide) ?_
      refine go_iload_n (y := mX11_copy) (pc := 247) dX11_copy_247 rfl rfl ?_
      refine go_iaload (y := mX11_copy) (pc := 248) (k := k) dX11_copy_248 rfl (by decide) rfl (by omega) (by decide) (fun r248 => ?_)
      refine go_top (b := ν 283 k) (ow_o (by omega)) (fun t248 => ?_)
      refine go_wias (y := mX11_copy) (pc := 249) (r := 7) (k := k) dX11_copy_249 hw (by decide) rfl hz rfl (by omega) (by decide) (by omega) ?_
      refine go_aload_n (y := mX11_copy) (pc := 250) dX11_copy_250 rfl rfl ?_
      refine go_getR (y := mX11_copy) (pc := 251) dX11_copy_251 fl_X11_31 (ow_sh hw 0 (by decide)) rfl (by omega) ?_
      refine go_iload_n (y := mX11_copy) (pc := 254) dX11_copy_254 rfl rfl ?_
      refine go_aload_n (y := mX11_copy) (pc := 255) dX11_copy_255 rfl rfl ?_
      refine go_getR (y := mX11_copy) (pc := 256) dX11_copy_256 fl_X11_31 rfl rfl (by decide) ?_
      refine go_iload_n (y := mX11_copy) (pc := 259) dX11_copy_259 rfl rfl ?_
      refine go_iaload (y := mX11_copy) (pc := 260) (k := k) dX11_copy_260 rfl (by decide) rfl (by omega) (by decide) (fun r260 => ?_)
      refine go_top (b := ν 284 k) (ow_o (by omega)) (fun t260 => ?_)
      refine go_wias (y := mX11_copy) (pc := 261) (r := 8) (k := k) dX11_copy_261 hw (by decide) rfl hz rfl (by omega) (by decide) (by omega) ?_
      refine go_aload_n (y := mX11_copy) (pc := 262) dX11_copy_262 rfl rfl ?_
      refine go_getR (y := mX11_copy) (pc := 263) dX11_copy_263 fl_X11_34 (ow_sh hw 0 (by decide)) rfl (by omega) ?_
      refine go_iload_n (y := mX11_copy) (pc := 266) dX11_copy_266 rfl rfl ?_
      refine go_aload_n (y := mX11_copy) (pc := 267) dX11_copy_267 rfl rfl ?_
      refine go_getR (y := mX11_copy) (pc := 268) dX11_copy_268 fl_X11_34 rfl rfl (by decide) ?_
      refine go_iload_n (y := mX11_copy) (pc := 271) dX11_copy_271 rfl rfl ?_
      refine go_iaload (y := mX11_copy) (pc := 272) (k := k) dX11_copy_272 rfl (by decide) rfl (by omega) (by decide) (fun r272 => ?_)
      refine go_top (b := ν 285 k) (ow_o (by omega)) (fun t272 => ?_)
      refine go_wias (y := mX11_copy) (pc := 273) (r := 9) (k := k) dX11_copy_273 hw (by decide) rfl hz rfl (by omega) (by decide) (by omega) ?_
      refine go_iinc (y := mX11_copy) (pc := 274) dX11_copy_274 rfl (by decide) ?_
      refine go_goto (y := mX11_copy) (pc := 277) (tgt := 220) dX11_copy_277 (by decide) ?_
      refine ih (k + 1) _ (by omega) (fun r i hr => ?_)
      clear ih
      unfold cpO at hr hI
      unfold wr
      (repeat' split)
      · rename_i g; rw [g.1, g.2]; exact (src_n (ν := ν) (r := 9) (j := k) (by decide)).symm
      · rename_i g; rw [g.1, g.2]; exact (src_n (ν := ν) (r := 8) (j := k) (by decide)).symm
      · rename_i g; rw [g.1, g.2]; exact (src_n (ν := ν) (r := 7) (j := k) (by decide)).symm
      · rename_i g; rw [g.1, g.2]; exact (src_n (ν := ν) (r := 6) (j := k) (by decide)).symm
      · rcases hr with h | h | h | h | h | h | h
        · exact hI r i (Or.inl h)
        · exact hI r i (Or.inr (Or.inl h))
        · exact hI r i (Or.inr (Or.inr (Or.inl ⟨h.1, by have h1 := h.1; have h2 := h.2; omega⟩)))
        · exact hI r i (Or.inr (Or.inr (Or.inr (Or.inl h))))
        · exact hI r i (Or.inr (Or.inr (Or.inr (Or.inr (Or.inl h)))))
        · exact hI r i (Or.inr (Or.inr (Or.inr (Or.inr (Or.inr (Or.inl h))))))
        · exact hI r i (Or.inr (Or.inr (Or.inr (Or.inr (Or.inr (Or.inr (h)))))))
set_option maxRecDepth 8000 in
set_option maxHeartbeats 4000000 in
theorem o_cp218 {Q : Option Value → Mem → Prop} {X : String → Mem → Prop} {w : Nat} (h293 : w = 293) {ν : Mem} (K : ∀ ω', (∀ r j, cpO 12 16 192 4 13 r j → ω' r j = srcO ν r j) → Q (some (.ref w)) (ow w ω' ν)) (τ : Mem) (k : Nat) (hI : ∀ r i, cpO 12 0 0 0 0 r i → τ r i = srcO ν r i) : go 310 3 0 0 mX11_copy Q X 218 [.ref 276, .ref w, .int (iI (k : Nat))] [] (ow w τ ν) := by
  have hw : is_ow w := Or.inr h293
  have hz : w + 17 ≤ 310 := by omega
  refine go_iconst (y := mX11_copy) (pc := 218) dX11_copy_218 ?_
  refine go_istore_n (y := mX11_copy) (pc := 219) dX11_copy_219 rfl (by decide) ?_
  exact o_cp2 h293 K 16 0 τ (by omega) hI
set_option maxRecDepth 8000 in
set_option maxHeartbeats 4000000 in
theorem o_cp1 {Q : Option Value → Mem → Prop} {X : String → Mem → Prop} {w : Nat} (h293 : w = 293) {ν : Mem} (K : ∀ ω', (∀ r j, cpO 12 16 192 4 13 r j → ω' r j = srcO ν r j) → Q (some (.ref w)) (ow w ω' ν)) : ∀ (j k : Nat) (τ : Mem), k + j = 12 → (∀ r i, cpO k 0 0 0 0 r i → τ r i = srcO ν r i) → go 310 3 0 0 mX11_copy Q X 146 [.ref 276, .ref w, .int (iI (k : Nat))] [] (ow w τ ν) := by
  have hw : is_ow w := Or.inr h293
  have hz : w + 17 ≤ 310 := by omega
  intro j
  induction j with
  | zero =>
    intro k τ hk hI
    have e : k = 12 := by omega
    subst e
    refine go_iload_n (y := mX11_copy) (pc := 146) dX11_copy_146 rfl rfl ?_
    refine go_bipush (y := mX11_copy) (pc := 147) dX11_copy_147 (by decide) ?_
    refine go_icmp_ge (y := mX11_copy) (pc := 149) (tgt := 218) dX11_copy_149 (by decide) (by omega) (by omega) (fun h149 => ?_) (fun h149 => ?_)
    · skip
      exact o_cp218 h293 K τ 12 hI
    · skip
      exact absurd h149 (by decide)
  | succ j ih =>
    intro k τ hk hI
    refine go_iload_n (y := mX11_copy) (pc := 146) dX11_copy_146 rfl rfl ?_
    refine go_bipush (y := mX11_copy) (pc := 147) dX11_copy_147 (by decide) ?_
    refine go_icmp_ge (y := mX11_copy) (pc := 149) (tgt := 218) dX11_copy_149 (by decide) (by omega) (by omega) (fun h149 => ?_) (fun h149 => ?_)
    · skip
      exact absurd h149 (by omega)
    · skip
      refine go_aload_n (y := mX11_copy) (pc := 152) dX11_copy_152 rfl rfl ?_
      refine go_getR (y := mX11_copy) (pc := 153) dX11_copy_153 fl_X11_7 (ow_sh hw 0 (by decide)) rfl (by omega) ?_
      refine go_iload_n (y := mX11_copy) (pc := 156) dX11_copy_156 rfl rfl ?_
      refine go_aload_n (y := mX11_copy) (pc := 157) dX11_copy_157 rfl rfl ?_
      refine go_getR (y := mX11_copy) (pc := 158) dX11_copy_158 fl_X11_7 rfl rfl (by decide) ?_
      refine go_iload_n (y := mX11_copy) (pc := 161) dX11_copy_161 rfl rfl ?_
      refine go_iaload (y := mX11_copy) (pc := 162) (k := k) dX11_copy_162 rfl (by decide) rfl (by omega) (by decide) (fun r162 => ?_)
      refine go_top (b := ν 277 k) (ow_o (by omega)) (fun t162 => ?_)
      refine go_wias (y := mX11_copy) (pc := 163) (r := 1) (k := k) dX11_copy_163 hw (by decide) rfl hz rfl (by omega) (by decide) (by omega) ?_
      refine go_aload_n (y := mX11_copy) (pc := 164) dX11_copy_164 rfl rfl ?_
      refine go_getR (y := mX11_copy) (pc := 165) dX11_copy_165 fl_X11_13 (ow_sh hw 0 (by decide)) rfl (by omega) ?_
      refine go_iload_n (y := mX11_copy) (pc := 168) dX11_copy_168 rfl rfl ?_
      refine go_aload_n (y := mX11_copy) (pc := 169) dX11_copy_169 rfl rfl ?_
      refine go_getR (y := mX11_copy) (pc := 170) dX11_copy_170 fl_X11_13 rfl rfl (by decide) ?_
      refine go_iload_n (y := mX11_copy) (pc := 173) dX11_copy_173 rfl rfl ?_
      refine go_iaload (y := mX11_copy) (pc := 174) (k := k) dX11_copy_174 rfl (by decide) rfl (by omega) (by decide) (fun r174 => ?_)
      refine go_top (b := ν 278 k) (ow_o (by omega)) (fun t174 => ?_)
      refine go_wias (y := mX11_copy) (pc := 175) (r := 2) (k := k) dX11_copy_175 hw (by decide) rfl hz rfl (by omega) (by decide) (by omega) ?_
      refine go_aload_n (y := mX11_copy) (pc := 176) dX11_copy_176 rfl rfl ?_
      refine go_getR (y := mX11_copy) (pc := 177) dX11_copy_177 fl_X11_16 (ow_sh hw 0 (by decide)) rfl (by omega) ?_
      refine go_iload_n (y := mX11_copy) (pc := 180) dX11_copy_180 rfl rfl ?_
      refine go_aload_n (y := mX11_copy) (pc := 181) dX11_copy_181 rfl rfl ?_
      refine go_getR (y := mX11_copy) (pc := 182) dX11_copy_182 fl_X11_16 rfl rfl (by decide) ?_
      refine go_iload_n (y := mX11_copy) (pc := 185) dX11_copy_185 rfl rfl ?_
      refine go_iaload (y := mX11_copy) (pc := 186) (k := k) dX11_copy_186 rfl (by decide) rfl (by omega) (by decide) (fun r186 => ?_)
      refine go_top (b := ν 279 k) (ow_o (by omega)) (fun t186 => ?_)
      refine go_wias (y := mX11_copy) (pc := 187) (r := 3) (k := k) dX11_copy_187 hw (by decide) rfl hz rfl (by omega) (by decide) (by omega) ?_
      refine go_aload_n (y := mX11_copy) (pc := 188) dX11_copy_188 rfl rfl ?_
      refine go_getR (y := mX11_copy) (pc := 189) dX11_copy_189 fl_X11_19 (ow_sh hw 0 (by decide)) rfl (by omega) ?_
      refine go_iload_n (y := mX11_copy) (pc := 192) dX11_copy_192 rfl rfl ?_
      refine go_aload_n (y := mX11_copy) (pc := 193) dX11_copy_193 rfl rfl ?_
      refine go_getR (y := mX11_copy) (pc := 194) dX11_copy_194 fl_X11_19 rfl rfl (by decide) ?_
      refine go_iload_n (y := mX11_copy) (pc := 197) dX11_copy_197 rfl rfl ?_
      refine go_iaload (y := mX11_copy) (pc := 198) (k := k) dX11_copy_198 rfl (by decide) rfl (by omega) (by decide) (fun r198 => ?_)
      refine go_top (b := ν 280 k) (ow_o (by omega)) (fun t198 => ?_)
      refine go_wias (y := mX11_copy) (pc := 199) (r := 4) (k := k) dX11_copy_199 hw (by decide) rfl hz rfl (by omega) (by decide) (by omega) ?_
      refine go_aload_n (y := mX11_copy) (pc := 200) dX11_copy_200 rfl rfl ?_
      refine go_getR (y := mX11_copy) (pc := 201) dX11_copy_201 fl_X11_22 (ow_sh hw 0 (by decide)) rfl (by omega) ?_
      refine go_iload_n (y := mX11_copy) (pc := 204) dX11_copy_204 rfl rfl ?_
      refine go_aload_n (y := mX11_copy) (pc := 205) dX11_copy_205 rfl rfl ?_
      refine go_getR (y := mX11_copy) (pc := 206) dX11_copy_206 fl_X11_22 rfl rfl (by decide) ?_
      refine go_iload_n (y := mX11_copy) (pc := 209) dX11_copy_209 rfl rfl ?_
      refine go_iaload (y := mX11_copy) (pc := 210) (k := k) dX11_copy_210 rfl (by decide) rfl (by omega) (by decide) (fun r210 => ?_)
      refine go_top (b := ν 281 k) (ow_o (by omega)) (fun t210 => ?_)
      refine go_wias (y := mX11_copy) (pc := 211) (r := 5) (k := k) dX11_copy_211 hw (by decide) rfl hz rfl (by omega) (by decide) (by omega) ?_
      refine go_iinc (y := mX11_copy) (pc := 212) dX11_copy_212 rfl (by decide) ?_
      refine go_goto (y := mX11_copy) (pc := 215) (tgt := 146) dX11_copy_215 (by decide) ?_
      refine ih (k + 1) _ (by omega) (fun r i hr => ?_)
      clear ih
      unfold cpO at hr hI
      unfold wr
      (repeat' split)
      · rename_i g; rw [g.1, g.2]; exact (src_n (ν := ν) (r := 5) (j := k) (by decide)).symm
      · rename_i g; rw [g.1, g.2]; exact (src_n (ν := ν) (r := 4) (j := k) (by decide)).symm
      · rename_i g; rw [g.1, g.2]; exact (src_n (ν := ν) (r := 3) (j := k) (by decide)).symm
      · rename_i g; rw [g.1, g.2]; exact (src_n (ν := ν) (r := 2) (j := k) (by decide)).symm
      · rename_i g; rw [g.1, g.2]; exact (src_n (ν := ν) (r := 1) (j := k) (by decide)).symm
      · rcases hr with h | h | h | h | h | h | h
        · exact hI r i (Or.inl h)
        · exact hI r i (Or.inr (Or.inl ⟨h.1, by have h1 := h.1; have h2 := h.2; omega⟩))
        · exact hI r i (Or.inr (Or.inr (Or.inl h)))
        · exact hI r i (Or.inr (Or.inr (Or.inr (Or.inl h))))
        · exact hI r i (Or.inr (Or.inr (Or.inr (Or.inr (Or.inl h)))))
        · exact hI r i (Or.inr (Or.inr (Or.inr (Or.inr (Or.inr (Or.inl h))))))
        · exact hI r i (Or.inr (Or.inr (Or.inr (Or.inr (Or.inr (Or.inr (h)))))))
set_option maxRecDepth 8000 in
set_option maxHeartbeats 4000000 in
theorem o_copy {Q : Option Value → Mem → Prop} {X : String → Mem → Prop} {w : Nat} (h293 : w = 293) {ν : Mem} (K : ∀ ω', (∀ r j, cpO 12 16 192 4 13 r j → ω' r j = srcO ν r j) → Q (some (.ref w)) (ow w ω' ν)) {ω : Mem} : go 310 3 0 0 mX11_copy Q X 8 [.ref 276, .ref w, .null] [] (ow w ω ν) := by
  have hw : is_ow w := Or.inr h293
  have hz : w + 17 ≤ 310 := by omega
  have J144 : ∀ (τ : Mem), (∀ i, i < 17 → τ 0 i = ν 276 i) → go 310 3 0 0 mX11_copy Q X 144 [.ref 276, .ref w, .null] [] (ow w τ ν) := by
    intro τ h0
    refine go_iconst (y := mX11_copy) (pc := 144) dX11_copy_144 ?_
    refine go_istore_n (y := mX11_copy) (pc := 145) dX11_copy_145 rfl (by decide) ?_
    refine o_cp1 h293 K 12 0 τ (by omega) (fun r i hr => ?_)
    unfold cpO at hr
    have e : r = 0 ∧ i < 17 := by omega
    rw [e.1, src_n (by decide)]
    exact h0 i e.2
  refine go_aload_n (y := mX11_copy) (pc := 8) dX11_copy_8 rfl rfl ?_
  refine go_aload_n (y := mX11_copy) (pc := 9) dX11_copy_9 rfl rfl ?_
  refine go_getI (y := mX11_copy) (pc := 10) dX11_copy_10 fl_X11_60 rfl rfl (by decide) (fun r10 => ?_)
  refine go_top (b := ν 276 0) (ow_o (by omega)) (fun t10 => ?_)
  refine go_wput (y := mX11_copy) (pc := 13) (r := 0) dX11_copy_13 fp_X11_60 hw (by decide) rfl rfl hz (by omega) ?_
  refine go_aload_n (y := mX11_copy) (pc := 16) dX11_copy_16 rfl rfl ?_
  refine go_aload_n (y := mX11_copy) (pc := 17) dX11_copy_17 rfl rfl ?_
  refine go_getI (y := mX11_copy) (pc := 18) dX11_copy_18 fl_X11_64 rfl rfl (by decide) (fun r18 => ?_)
  refine go_top (b := ν 276 1) (ow_o (by omega)) (fun t18 => ?_)
  refine go_wput (y := mX11_copy) (pc := 21) (r := 0) dX11_copy_21 fp_X11_64 hw (by decide) rfl rfl hz (by omega) ?_
  refine go_aload_n (y := mX11_copy) (pc := 24) dX11_copy_24 rfl rfl ?_
  refine go_aload_n (y := mX11_copy) (pc := 25) dX11_copy_25 rfl rfl ?_
  refine go_getI (y := mX11_copy) (pc := 26) dX11_copy_26 fl_X11_67 rfl rfl (by decide) (fun r26 => ?_)
  refine go_top (b := ν 276 2) (ow_o (by omega)) (fun t26 => ?_)
  refine go_wput (y := mX11_copy) (pc := 29) (r := 0) dX11_copy_29 fp_X11_67 hw (by decide) rfl rfl hz (by omega) ?_
  refine go_aload_n (y := mX11_copy) (pc := 32) dX11_copy_32 rfl rfl ?_
  refine go_aload_n (y := mX11_copy) (pc := 33) dX11_copy_33 rfl rfl ?_
  refine go_getI (y := mX11_copy) (pc := 34) dX11_copy_34 fl_X11_70 rfl rfl (by decide) (fun r34 => ?_)
  refine go_top (b := ν 276 3) (ow_o (by omega)) (fun t34 => ?_)
  refine go_wput (y := mX11_copy) (pc := 37) (r := 0) dX11_copy_37 fp_X11_70 hw (by decide) rfl rfl hz (by omega) ?_
  refine go_aload_n (y := mX11_copy) (pc := 40) dX11_copy_40 rfl rfl ?_
  refine go_aload_n (y := mX11_copy) (pc := 41) dX11_copy_41 rfl rfl ?_
  refine go_getI (y := mX11_copy) (pc := 42) dX11_copy_42 fl_X11_73 rfl rfl (by decide) (fun r42 => ?_)
  refine go_top (b := ν 276 4) (ow_o (by omega)) (fun t42 => ?_)
  refine go_wput (y := mX11_copy) (pc := 45) (r := 0) dX11_copy_45 fp_X11_73 hw (by decide) rfl rfl hz (by omega) ?_
  refine go_aload_n (y := mX11_copy) (pc := 48) dX11_copy_48 rfl rfl ?_
  refine go_aload_n (y := mX11_copy) (pc := 49) dX11_copy_49 rfl rfl ?_
  refine go_getI (y := mX11_copy) (pc := 50) dX11_copy_50 fl_X11_76 rfl rfl (by decide) (fun r50 => ?_)
  refine go_top (b := ν 276 5) (ow_o (by omega)) (fun t50 => ?_)
  refine go_wput (y := mX11_copy) (pc := 53) (r := 0) dX11_copy_53 fp_X11_76 hw (by decide) rfl rfl hz (by omega) ?_
  refine go_aload_n (y := mX11_copy) (pc := 56) dX11_copy_56 rfl rfl ?_
  refine go_aload_n (y := mX11_copy) (pc := 57) dX11_copy_57 rfl rfl ?_
  refine go_getI (y := mX11_copy) (pc := 58) dX11_copy_58 fl_X11_79 rfl rfl (by decide) (fun r58 => ?_)
  refine go_top (b := ν 276 6) (ow_o (by omega)) (fun t58 => ?_)
  refine go_wput (y := mX11_copy) (pc := 61) (r := 0) dX11_copy_61 fp_X11_79 hw (by decide) rfl rfl hz (by omega) ?_
  refine go_aload_n (y := mX11_copy) (pc := 64) dX11_copy_64 rfl rfl ?_
  refine go_aload_n (y := mX11_copy) (pc := 65) dX11_copy_65 rfl rfl ?_
  refine go_getI (y := mX11_copy) (pc := 66) dX11_copy_66 fl_X11_82 rfl rfl (by decide) (fun r66 => ?_)
  refine go_top (b := ν 276 7) (ow_o (by omega)) (fun t66 => ?_)
  refine go_wput (y := mX11_copy) (pc := 69) (r := 0) dX11_copy_69 fp_X11_82 hw (by decide) rfl rfl hz (by omega) ?_
  refine go_aload_n (y := mX11_copy) (pc := 72) dX11_copy_72 rfl rfl ?_
  refine go_aload_n (y := mX11_copy) (pc := 73) dX11_copy_73 rfl rfl ?_
  refine go_getI (y := mX11_copy) (pc := 74) dX11_copy_74 fl_X11_85 rfl rfl (by decide) (fun r74 => ?_)
  refine go_top (b := ν 276 8) (ow_o (by omega)) (fun t74 => ?_)
  refine go_wput (y := mX11_copy) (pc := 77) (r := 0) dX11_copy_77 fp_X11_85 hw (by decide) rfl rfl hz (by omega) ?_
  refine go_aload_n (y := mX11_copy) (pc := 80) dX11_copy_80 rfl rfl ?_
  refine go_aload_n (y := mX11_copy) (pc := 81) dX11_copy_81 rfl rfl ?_
  refine go_getI (y := mX11_copy) (pc := 82) dX11_copy_82 fl_X11_88 rfl rfl (by decide) (fun r82 => ?_)
  refine go_top (b := ν 276 9) (ow_o (by omega)) (fun t82 => ?_)
  refine go_wput (y := mX11_copy) (pc := 85) (r := 0) dX11_copy_85 fp_X11_88 hw (by decide) rfl rfl hz (by omega) ?_
  refine go_aload_n (y := mX11_copy) (pc := 88) dX11_copy_88 rfl rfl ?_
  refine go_aload_n (y := mX11_copy) (pc := 89) dX11_copy_89 rfl rfl ?_
  refine go_getI (y := mX11_copy) (pc := 90) dX11_copy_90 fl_X11_91 rfl rfl (by decide) (fun r90 => ?_)
  refine go_top (b := ν 276 10) (ow_o (by omega)) (fun t90 => ?_)
  refine go_wput (y := mX11_copy) (pc := 93) (r := 0) dX11_copy_93 fp_X11_91 hw (by decide) rfl rfl hz (by omega) ?_
  refine go_aload_n (y := mX11_copy) (pc := 96) dX11_copy_96 rfl rfl ?_
  refine go_aload_n (y := mX11_copy) (pc := 97) dX11_copy_97 rfl rfl ?_
  refine go_getI (y := mX11_copy) (pc := 98) dX11_copy_98 fl_X11_94 rfl rfl (by decide) (fun r98 => ?_)
  refine go_top (b := ν 276 11) (ow_o (by omega)) (fun t98 => ?_)
  refine go_wput (y := mX11_copy) (pc := 101) (r := 0) dX11_copy_101 fp_X11_94 hw (by decide) rfl rfl hz (by omega) ?_
  refine go_aload_n (y := mX11_copy) (pc := 104) dX11_copy_104 rfl rfl ?_
  refine go_aload_n (y := mX11_copy) (pc := 105) dX11_copy_105 rfl rfl ?_
  refine go_getI (y := mX11_copy) (pc := 106) dX11_copy_106 fl_X11_97 rfl rfl (by decide) (fun r106 => ?_)
  refine go_top (b := ν 276 12) (ow_o (by omega)) (fun t106 => ?_)
  refine go_wput (y := mX11_copy) (pc := 109) (r := 0) dX11_copy_109 fp_X11_97 hw (by decide) rfl rfl hz (by omega) ?_
  refine go_aload_n (y := mX11_copy) (pc := 112) dX11_copy_112 rfl rfl ?_
  refine go_aload_n (y := mX11_copy) (pc := 113) dX11_copy_113 rfl rfl ?_
  refine go_getI (y := mX11_copy) (pc := 114) dX11_copy_114 fl_X11_100 rfl rfl (by decide) (fun r114 => ?_)
  refine go_top (b := ν 276 13) (ow_o (by omega)) (fun t114 => ?_)
  refine go_wput (y := mX11_copy) (pc := 117) (r := 0) dX11_copy_117 fp_X11_100 hw (by decide) rfl rfl hz (by omega) ?_
  refine go_aload_n (y := mX11_copy) (pc := 120) dX11_copy_120 rfl rfl ?_
  refine go_aload_n (y := mX11_copy) (pc := 121) dX11_copy_121 rfl rfl ?_
  refine go_getI (y := mX11_copy) (pc := 122) dX11_copy_122 fl_X11_103 rfl rfl (by decide) (fun r122 => ?_)
  refine go_top (b := ν 276 14) (ow_o (by omega)) (fun t122 => ?_)
  refine go_wput (y := mX11_copy) (pc := 125) (r := 0) dX11_copy_125 fp_X11_103 hw (by decide) rfl rfl hz (by omega) ?_
  refine go_aload_n (y := mX11_copy) (pc := 128) dX11_copy_128 rfl rfl ?_
  refine go_aload_n (y := mX11_copy) (pc := 129) dX11_copy_129 rfl rfl ?_
  refine go_getI (y := mX11_copy) (pc := 130) dX11_copy_130 fl_X11_106 rfl rfl (by decide) (fun r130 => ?_)
  refine go_top (b := ν 276 15) (ow_o (by omega)) (fun t130 => ?_)
  refine go_wput (y := mX11_copy) (pc := 133) (r := 0) dX11_copy_133 fp_X11_106 hw (by decide) rfl rfl hz (by omega) ?_
  refine go_aload_n (y := mX11_copy) (pc := 136) dX11_copy_136 rfl rfl ?_
  refine go_aload_n (y := mX11_copy) (pc := 137) dX11_copy_137 rfl rfl ?_
  refine go_getI (y := mX11_copy) (pc := 138) dX11_copy_138 fl_X11_109 rfl rfl (by decide) (fun r138 => ?_)
  refine go_top (b := ν 276 16) (ow_o (by omega)) (fun t138 => ?_)
  refine go_wput (y := mX11_copy) (pc := 141) (r := 0) dX11_copy_141 fp_X11_109 hw (by decide) rfl rfl hz (by omega) ?_
  refine J144 _ (fun i hi => ?_)
  have e : i = 0 ∨ i = 1 ∨ i = 2 ∨ i = 3 ∨ i = 4 ∨ i = 5 ∨ i = 6 ∨ i = 7 ∨ i = 8 ∨ i = 9 ∨ i = 10 ∨ i = 11 ∨ i = 12 ∨ i = 13 ∨ i = 14 ∨ i = 15 ∨ i = 16 := by omega
  rcases e with e | e | e | e | e | e | e | e | e | e | e | e | e | e | e | e | e <;> subst e <;> rfl
