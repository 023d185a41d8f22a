/-! THE LAW FROM ITS ENTRY ON -/
/-- the law answers true -/
def lawQ (X0 : Nat) : Array Value → State → Outcome → State → Prop := fun _ st oc t => oc = .returned (some (.int (iI 1))) ∧ va_F (far X0) st t
def mlaw (μ : Mem) : Mem := fun a i => if a = 289 then 0 else if a = 290 then -2147483648 else μ a i
theorem mlaw_o {μ : Mem} {a i : Nat} (h : a ≠ 289 ∧ a ≠ 290) : mlaw μ a i = μ a i := by
  unfold mlaw
  rw [if_neg h.1, if_neg h.2]
theorem mlaw_inv {μ : Mem} (h : INV μ) : INV (mlaw μ) := inv_sam h ⟨fun b j g => mlaw_o (by omega), fun j _ => mlaw_o (by omega)⟩
theorem mlaw_rng {μ : Mem} (h : ∀ a i, rng (μ a i)) : ∀ a i, rng (mlaw μ a i) := fun a i => by
  unfold mlaw
  split
  · exact ⟨by decide, by decide⟩
  · split
    · exact ⟨by decide, by decide⟩
    · exact h a i
abbrev lawL (cy : Nat → ClassId) (ad : Nat → Nat) : va_W := [(ad 289, .inl (cy 4, 1, .inr (.inl (fun _ => 0)))), (ad 290, .inl (cy 5, 1, .inr (.inr (.inr (.inl (fun _ => 0))))))]
theorem law_world {cy : Nat → ClassId} {ad : Nat → Nat} {dv : UInt64} {μ : Mem} : wsl cy dv ad (mlaw μ) 291 = wsl cy dv ad μ 289 ++ lawL cy ad := by
  have e : wsl cy dv ad μ 289 = wsl cy dv ad (mlaw μ) 289 := wsl_off (fun a j h => (mlaw_o (by omega)).symm)
  have f1 : ent cy dv ad (mlaw μ) 289 = .inl (cy 4, 1, .inr (.inl (fun _ => 0))) := (ent_5 (show shp 289 = (5, 1, []) from rfl)).trans rfl
  have f2 : ent cy dv ad (mlaw μ) 290 = .inl (cy 5, 1, .inr (.inr (.inr (.inl (fun _ => 0))))) := by
    rw [ent_6 (show shp 290 = (6, 1, []) from rfl), show dbl (mlaw μ 290 0) (mlaw μ 290 1) = 0 from (by show dbl (-2147483648) (-2147483648) = 0; decide)]
  rw [e]
  unfold wsl
  rw [List.range_eq_range', List.range_eq_range', show (291 : Nat) = 289 + 2 from rfl, ← List.range'_append_1, List.map_append]
  refine congrArg (fun w => List.map (fun k => (ad k, ent cy dv ad (mlaw μ) k)) (List.range' 0 289) ++ w) ?_
  show [(ad 289, ent cy dv ad (mlaw μ) 289), (ad 290, ent cy dv ad (mlaw μ) 290)] = _
  rw [f1, f2]
theorem cl_L_143 : Cond.classLink RL 143 RX11 ∈ aw := (tb_in 1749 (by decide +kernel) (by decide +kernel))
theorem cl_L_8 : Cond.classLink RL 8 RX10 ∈ aw := (tb_in 34 (by decide +kernel) (by decide +kernel))
section LawRun
variable {D : va_G} {cy : Nat → ClassId} {X0 : Nat} {L : Nat} {xs : Nat → Int32}
theorem law_3 (hL : L ≤ 3072) {ad : Nat → Nat} {h : Nat} {dv : UInt64} {μ : Mem} {E : va_W} (hi : INV μ) (hR : ∀ a i, rng (μ a i)) (hE : sbx cy ad μ 289 E) (h1 : ad 289 = h) (h2 : ad 290 = h + 1) :
    gc D cy X0 ad 20 (1536 + 1 + 1) (125952 + 1 + 1) (mLaw L xs) (lawQ X0) noX 15 [.ref 6000, .ref 0, .null, .null, .null, .null, .null, .null, .null] [.ref 276] ((wsl cy dv ad μ 289 ++ E) ++ []) h := by
  refine gc_astore_n (y := mLaw L xs) dL_law_15 rfl (show 2 < 9 by decide) ?_
  refine gc_iconst (y := mLaw L xs) dL_law_16 ?_
  refine gc_newa (y := mLaw L xs) (N := 1) (k := 289) (t := 4) (W0 := wsl cy dv ad μ 289 ++ E) (L := []) (kc := 1536 + 1) (ks := 125952 + 1) (ty := .long) (a0 := (1, .inr (.inl (fun _ => 0)))) dL_law_17 rfl (tb_in 2426 (by decide +kernel) (by decide +kernel)) (fun cA => rfl) rfl rfl (by decide) (by decide) h1 ?_
  refine gc_astore_n (y := mLaw L xs) dL_law_19 rfl (show 3 < 9 by decide) ?_
  refine gc_iconst (y := mLaw L xs) dL_law_20 ?_
  refine gc_newa (y := mLaw L xs) (N := 1) (k := 290) (t := 5) (W0 := wsl cy dv ad μ 289 ++ E) (L := ([(ad 289, .inl (cy 4, 1, .inr (.inl (fun _ => 0))))] : va_W)) (kc := 1536) (ks := 125952) (ty := .double) (a0 := (1, .inr (.inr (.inr (.inl (fun _ => 0)))))) dL_law_21 rfl (tb_in 2427 (by decide +kernel) (by decide +kernel)) (fun cA => rfl) rfl rfl (by decide) (by decide) h2 ?_
  refine gc_astore (y := mLaw L xs) (i := 4) dL_law_23 (show 4 < 9 by decide) ?_
  refine gc_iconst (y := mLaw L xs) dL_law_25 ?_
  refine gc_istore (y := mLaw L xs) (i := 5) dL_law_26 (show 5 < 9 by decide) ?_
  have hp : ((wsl cy dv ad μ 289 ++ E) ++ lawL cy ad).Perm (wsl cy dv ad (mlaw μ) 291 ++ E) := by
    rw [law_world, List.append_assoc, List.append_assoc]
    exact List.Perm.append_left _ List.perm_append_comm
  have K := law_loop (L := L) (xs := xs) (Q := fun r _ => r = some (.int (iI 1))) (X := fun _ _ => False) hL (fun _ => rfl) 512 0 (mlaw μ) (mlaw_inv hi) (by omega) (by omega)
  have K2 := gc_noX (n := 291) (gc_go (D := D) (cy := cy) (X0 := X0) (ad := ad) (h := h + 2) (n := 291) (z := 291) (dv := dv) (E := E) (Nat.le_refl _) (by decide) (mlaw_rng hR) (sbx_n (sbx_off hE (fun a j ha => mlaw_o (by omega))) (by decide) (by decide)) hp K)
  intro p l e R s m args below meth c mc ms hc ho H locs cells slots lsA hP hD hz hS hl h1 h2
  refine W_mono (gc_use K2 hc ho hP hD hz hS hl h1 h2) (fun t ht => vx_MQ_mono (fun st o t q => ?_) (fun _ _ _ q => q) t ht)
  obtain ⟨⟨r, μ1, dv1, g1, g2, -⟩, g3⟩ := q
  refine ⟨?_, g3⟩
  rw [g1, g2]
  rfl
set_option maxRecDepth 8000 in
theorem law_2 (hL : L ≤ 3072) {ad : Nat → Nat} {h : Nat} {dv : UInt64} {μ μ' : Mem} {E : va_W} (hμ : tkS f0 tx0.length m1 μ') (eμ : μ = tkE9 μ') (hR : ∀ a i, rng (μ a i)) (hE : sbx cy ad μ 276 E) (had : ∀ i, i < 13 → ad (276 + i) = h + i) :
    gc D cy X0 ad 20 (1551 + 0) (132537 + 0) (mLaw L xs) (lawQ X0) noX 7 [.ref 6000, .null, .null, .null, .null, .null, .null, .null, .null] [.ref 0] ((wsl cy dv ad μ 276 ++ E) ++ []) h := by
  refine gc_astore_n (y := mLaw L xs) dL_law_7 rfl (show 1 < 9 by decide) ?_
  refine gc_new (y := mLaw L xs) (N := 27) (ci := 15) (k := 276) (W0 := wsl cy dv ad μ 276 ++ E) (L := []) (kc := 1550) (ks := 132510) (fs := [.null, .null, .null, .null, .null, .null, .int (iI 0), .int (iI 0), .null, .int (iI 0), .int (iI 0), .int (iI 0), .int (iI 0), .int (iI 0), .int (iI 0), .int (iI 0), .int (iI 0), .int (iI 0), .null, .null, .null, .null, .int (iI 0), .int (iI 0), .int (iI 0), .null, .int (iI 0)]) dL_law_8 cl_L_143 (tb_in 1750 (by decide +kernel) (by decide +kernel)) (tb_in 20 (by decide +kernel) (by decide +kernel)) iaX11 tyX11 tyX11_ok rfl (by decide) (had 0 (by decide)) ?_
  refine gc_dup (y := mLaw L xs) dL_law_11 rfl ?_
  refine gc_callG (y := mLaw L xs) (d' := 8) (kc' := 12) (ks' := 6556) (kc2 := 1536 + 1 + 1) (ks2 := 125952 + 1 + 1) (y' := mX11_init) (b := 276) (as := []) (rest := [.ref 276]) (n := 0) dL_law_12 rfl (Or.inl ml_L_145) ok_X11_init rfl rfl rfl (by decide) (by simp) (Nat.le_of_ble_eq_true rfl) (by decide) (by decide) (by decide) (fun _ _ _ _ q => q.2) (K_X11 (μ := μ) (dv := dv) (E := E) (h := h + 1) (fun i hi => ?_) hR hE) ?_
  · rw [show 276 + 1 + i = 276 + (1 + i) by omega, had (1 + i) (by omega)]; omega
  intro p l e R s m args below meth c mc ms hc ho H locs cells slots lsA a v st₀ t hq e1 e2 hS hl h1 h2
  obtain ⟨⟨r, μ1, dv1, hv, ⟨hr, σ', ν', q1, q2, q3, q4, q5⟩, hR1, E1, hE1, hP1, hD1⟩, -⟩ := hq
  subst hr
  have hv' : v = none := by injection hv
  subst hv'
  rw [e1] at hP1
  have hi : INV μ1 := by
    rw [q5, eμ]
    rw [eμ] at q1
    exact first_inv hμ q1 q2 q3 q4
  have ew : wsl cy dv1 (adx ad 289 H.size) μ1 289 = wsl cy dv1 ad μ1 289 := wsl_ad (fun k hk => adx_o (Or.inl hk)) (fun k hk q hq => adx_o (by have := ref_289 k hk _ hq; simpa using this))
  have g := gc_use (law_3 (D := D) (cy := cy) (X0 := X0) (L := L) (xs := xs) hL (ad := adx ad 289 H.size) (h := H.size) (dv := dv1) (E := E1) hi hR1 (sbx_ad hE1 (adx_o (Or.inr (by decide))) (adx_o (Or.inr (by decide)))) (adx_n 0 (by decide)) (adx_n 1 (by decide))) (e := e) (below := below) (cx_ad hc (adx_o (Or.inr (by decide))) (fun k hk => adx_o (Or.inr (by omega)))) ho (by rw [List.append_nil, ew]; exact hP1) (by rw [List.append_nil, ew]; exact hD1) rfl hS (lh_ad hl (fun v hv => by
    simp only [List.set, List.mem_cons, List.not_mem_nil, or_false] at hv
    rcases hv with rfl | rfl | rfl | rfl | rfl | rfl | rfl | rfl | rfl
    · exact congrArg Value.ref (adx_o (Or.inr (by decide)))
    · exact congrArg Value.ref (adx_o (Or.inl (by decide)))
    all_goals rfl)) h1 h2
  have es : ([Value.ref 276].map (av_l (adx ad 289 H.size))) = [Value.ref 276].map (av_l ad) := congrArg (fun x => [Value.ref x]) (adx_o (Or.inl (by decide)))
  rw [es] at g
  exact g
set_option maxRecDepth 8000 in
theorem law_1 (hL : L ≤ 3072) {ad : Nat → Nat} {h : Nat} (had : ∀ i, i < 276 → ad i = h + i) (h50 : ad 5000 = h + 276) (h51 : ad 5001 = h + 277) :
    gc D cy X0 ad 20 1829 138093 (mLaw L xs) (lawQ X0) noX 0 [.ref 6000, .null, .null, .null, .null, .null, .null, .null, .null] [] ([] ++ []) h := by
  refine gc_new (y := mLaw L xs) (N := 11) (ci := 14) (k := 0) (W0 := []) (L := []) (kc := 1828) (ks := 138082) (fs := [.null, .null, .null, .null, .null, .null, .null, .null, .null, .null, .null]) dL_law_0 cl_L_8 (tb_in 35 (by decide +kernel) (by decide +kernel)) (tb_in 1 (by decide +kernel) (by decide +kernel)) iaX10 tyX10 tyX10_ok rfl (by decide) (had 0 (by decide)) ?_
  refine gc_dup (y := mLaw L xs) dL_law_3 rfl ?_
  refine gc_callG (y := mLaw L xs) (d' := 9) (kc' := 277) (ks' := 5545) (kc2 := 1551 + 0) (ks2 := 132537 + 0) (y' := mX10_init) (b := 0) (as := []) (rest := [.ref 0]) (n := 0) dL_law_4 rfl (Or.inl ml_L_142) ok_X10_init rfl rfl rfl (by decide) (by simp) (Nat.le_of_ble_eq_true rfl) (by decide) (by decide) (by decide) (fun _ _ _ _ q => q.2) (K_X10 (h := h + 1) (fun i hi => ?_) (by rw [h50]) (by rw [h51])) ?_
  · rw [had (0 + 1 + i) (by omega)]; omega
  intro p l e R s m args below meth c mc ms hc ho H locs cells slots lsA a v st₀ t hq e1 e2 hS hl h1 h2
  obtain ⟨⟨r, μ1, dv1, hv, ⟨hr, μ', q1, q2⟩, hR1, E1, hE1, hP1, hD1⟩, -⟩ := hq
  subst hr
  have hv' : v = none := by injection hv
  subst hv'
  rw [e1] at hP1
  have ew : wsl cy dv1 (adx ad 276 H.size) μ1 276 = wsl cy dv1 ad μ1 276 := wsl_ad (fun k hk => adx_o (Or.inl hk)) (fun k hk q hq => adx_o (by have := ref_276 k hk _ hq; simpa using this))
  have g := gc_use (law_2 (D := D) (cy := cy) (X0 := X0) (L := L) (xs := xs) hL (ad := adx ad 276 H.size) (h := H.size) (dv := dv1) (E := E1) q1 q2 hR1 (sbx_ad hE1 (adx_o (Or.inr (by decide))) (adx_o (Or.inr (by decide)))) (fun i hi => adx_n i (by omega))) (e := e) (below := below) (cx_ad hc (adx_o (Or.inr (by decide))) (fun k hk => adx_o (Or.inr (by omega)))) ho (by rw [List.append_nil, ew]; exact hP1) (by rw [List.append_nil, ew]; exact hD1) rfl hS (lh_ad hl (fun v hv => by
    simp only [List.mem_cons, List.not_mem_nil, or_false] at hv
    rcases hv with rfl | rfl | rfl | rfl | rfl | rfl | rfl | rfl | rfl
    · exact congrArg Value.ref (adx_o (Or.inr (by decide)))
    all_goals rfl)) h1 h2
  have es : ([Value.ref 0].map (av_l (adx ad 276 H.size))) = [Value.ref 0].map (av_l ad) := congrArg (fun x => [Value.ref x]) (adx_o (Or.inl (by decide)))
  rw [es] at g
  exact g
end LawRun
