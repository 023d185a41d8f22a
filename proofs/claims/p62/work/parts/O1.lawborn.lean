/-! THE LAW'S START: the class is made -/
theorem cl_L_30 : Cond.classLink RL 30 RX10 ∈ aw := tb_in 33 (by decide +kernel) (by decide +kernel)
section Born
variable {D : va_G} {cy : Nat → ClassId} {X0 : Nat → Prop} {PQ : Array Value → State → Outcome → State → Prop} {L : Nat} {xs : Nat → Int32}
set_option maxRecDepth 8000 in
theorem law_0 {kc ks h : Nat} {ad : Nat → Nat} (had : ∀ i, i < 276 → ad i = h + i) (h50 : ad 5000 = h + 276) (h51 : ad 5001 = h + 277) (h55 : ad 5005 = ad 5000)
    (K : ∀ (ad' : Nat → Nat) (μ μ' : Mem), tkS f0 tx0.length m1 μ' → μ = tkE9 μ' → gl D cy X0 293 ad' [] 11 kc ks (mL_law L xs) PQ noX 16 [.ref 6000, .ref 0, .ref 276, .null, .null, .null, .null, .null, .null] [] (ow 276 zO μ)) :
    gc D cy X0 ad 11 (277 + (16 + kc + 1) + 1) (5545 + (349 + ks + 33) + 11) (mL_law L xs) PQ noX 0 [.ref 6000, .null, .null, .null, .null, .null, .null, .null, .null] [] ([] ++ []) h := by
  refine gc_new (y := mL_law L xs) (N := 11) (ci := 14) (k := 0) (W0 := []) (L := []) (kc := 277 + (16 + kc + 1)) (ks := 5545 + (349 + ks + 33)) (fs := [.null, .null, .null, .null, .null, .null, .null, .null, .null, .null, .null]) dL_law_0 cl_L_30 (tb_in 34 (by decide +kernel) (by decide +kernel)) (tb_in 1 (by decide +kernel) (by decide +kernel)) iaX10 tyX10 tyX10_ok rfl (by decide) (had 0 (by decide)) ?_
  refine gc_dup (y := mL_law L xs) dL_law_3 rfl ?_
  refine gc_callGL (y := mL_law L xs) (d' := 9) (kc' := 277) (ks' := 5545) (kc2 := 16 + kc + 1) (ks2 := 349 + ks + 33) (y' := mX10_init) (b := 0) (as := []) (rest := [.ref 0]) (n := 0) dL_law_4 rfl (Or.inl ml_L_381) ok_X10_init rfl rfl rfl (by decide) (by simp) (Nat.le_of_ble_eq_true rfl) (by decide) (by omega) (by omega) (fun _ _ _ _ q => q.2) (K_X10 (h := h + 1) (fun i hi => ?_) (by rw [h50]) (by rw [h51]) h55) ?_
  · rw [had (0 + 1 + i) (by omega)]; omega
  intro p l e R s m args below meth c mc ms hc ho H locs cells slots lsA a v st₀ t hq e1 e2 hS hl h1 h2
  obtain ⟨⟨r, μ1, dv1, hv, ⟨hr, μ', q1, q2⟩, hR1, E1, hE1, hP1, hD1⟩, -⟩ := hq
  subst hr
  have hv' : v = none := by injection hv
  subst hv'
  rw [e1] at hP1
  have ew : wsl cy dv1 (adx ad 276 H.size) μ1 276 = wsl cy dv1 ad μ1 276 := wsl_276 (fun k hk => adx_o (by omega)) (fun b j hb => rfl)
  have g := gc_use (law_7 (D := D) (cy := cy) (X0 := X0) (L := L) (xs := xs) (ad := adx ad 276 H.size) (h := H.size) (dv := dv1) (E := E1) hR1 (sbx_ad hE1 (adx_o (Or.inr (by decide))) (adx_o (Or.inr (by decide)))) (fun i hi => adx_n i (by omega)) (K _ μ1 μ' q1 q2)) (e := e) (below := below) (cx_ad hc ⟨adx_o (Or.inr (by decide)), adx_o (Or.inr (by decide)), adx_o (Or.inr (by decide))⟩ (fun k hk => adx_o (Or.inr (by omega)))) ho (by rw [List.append_nil, ew]; exact hP1) (by rw [List.append_nil, ew]; exact hD1) rfl hS (lh_ad hl (fun v hv => by
    simp only [List.mem_cons, List.not_mem_nil, or_false] at hv
    rcases hv with rfl | rfl | rfl | rfl | rfl | rfl | rfl | rfl | rfl
    · exact congrArg Value.ref (adx_o (Or.inr (by decide)))
    all_goals rfl)) h1 h2
  have es : ([Value.ref 0].map (av_l (adx ad 276 H.size))) = [Value.ref 0].map (av_l ad) := congrArg (fun x => [Value.ref x]) (adx_o (Or.inl (by decide)))
  rw [es] at g
  exact g
end Born
