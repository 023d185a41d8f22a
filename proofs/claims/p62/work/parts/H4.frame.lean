/-! CALLS that leave further cells alone -/
theorem stb_nar {A B : Nat → Prop} {ad : Nat → Nat} {U : State} {H : Heap} (h : stb A ad U H) (hAB : ∀ q, B q → A q) : stb B ad U H := by
  obtain ⟨h1, h2, h3, h4, h5, h6, h7, h8, h9, h10⟩ := h
  refine ⟨fun i q hi => ?_, h2.narrow hAB, h3.narrow hAB, h4.narrow hAB, ⟨h5.1, ?_⟩, h6.narrow hAB, h7.narrow hAB, h8.narrow hAB, h9.narrow hAB, h10⟩
  · obtain ⟨g1, g2, g3, g4, g5⟩ := h1 i q hi
    exact ⟨g1, g2.narrow hAB, g3.narrow hAB, g4.narrow hAB, g5.narrow hAB⟩
  · obtain ⟨v, g1, g2⟩ := h5.2
    exact ⟨v, g1, g2.narrow hAB⟩
theorem kx_nar {D : va_G} {cy : Nat → ClassId} {A B : Nat → Prop} {ad : Nat → Nat} {U : State} {H : Heap} (h : kx D cy A ad U H) (hAB : ∀ q, B q → A q) : kx D cy B ad U H := ⟨h.1, stb_nar h.2 hAB⟩
theorem scx_nar {y : MI} {A B : Nat → Prop} {ad : Nat → Nat} {s : State} (h : scx y A ad s) (hAB : ∀ q, B q → A q) : scx y B ad s := by
  intro L xs
  refine ⟨fun e => ?_, fun e => ?_⟩
  · obtain ⟨g1, g2, g3⟩ := (h L xs).1 e
    exact ⟨g1, g2, fun w => g3 (hAB _ w)⟩
  · obtain ⟨g0, g1, g2, g3, g4⟩ := (h L xs).2 e
    exact ⟨g0, g1.narrow hAB, g2.narrow hAB, g3.narrow hAB, g4.narrow hAB⟩
theorem scx_no {y : MI} {A : Nat → Prop} {ad : Nat → Nat} {s : State} (h : y.2.2.2.2.2 = none) : scx y A ad s := fun L xs => ⟨fun e => (by rw [h] at e; cases e), fun e => (by rw [h] at e; cases e)⟩
theorem sub_le {X0 : Nat → Prop} {ws G : va_W} {H0 H : Heap} {locs : List Loc} (hD : va_D X0 (ws ++ G)) (hX : AX X0 H0) (hS : va_S X0 H0 H locs) : ∀ q, va_A ws H.size q → X0 q := by
  intro q h
  rcases h with ⟨k, e, h⟩ | h
  · exact hD.2 k (q, e) (by rw [List.getElem?_append_left (List.getElem?_eq_some_iff.mp h).1]; exact h)
  · exact hX q (Nat.le_trans hS.1 h)
theorem P_l {D : va_G} {cl : List vw_C} {a b : va_W} {H : Heap} (h : va_P D cl (a ++ b) H) : va_P D cl a H := fun k q hk => h k q (by rw [List.getElem?_append_left (List.getElem?_eq_some_iff.mp hk).1]; exact hk)
theorem P_r {D : va_G} {cl : List vw_C} {a b : va_W} {H : Heap} (h : va_P D cl (a ++ b) H) : va_P D cl b H := fun k q hk => h (a.length + k) q (by rw [List.getElem?_append_right (by omega), Nat.add_sub_cancel_left]; exact hk)
theorem D_l {A : Nat → Prop} {a b : va_W} (h : va_D A (a ++ b)) : va_D A a := ⟨fun i j p q hi hj e => h.1 i j p q (by rw [List.getElem?_append_left (List.getElem?_eq_some_iff.mp hi).1]; exact hi) (by rw [List.getElem?_append_left (List.getElem?_eq_some_iff.mp hj).1]; exact hj) e, fun k q hk => h.2 k q (by rw [List.getElem?_append_left (List.getElem?_eq_some_iff.mp hk).1]; exact hk)⟩
theorem D_r {A : Nat → Prop} {a b : va_W} (h : va_D A (a ++ b)) : va_D A b := ⟨fun i j p q hi hj e => by
    have := h.1 (a.length + i) (a.length + j) p q (by rw [List.getElem?_append_right (by omega), Nat.add_sub_cancel_left]; exact hi) (by rw [List.getElem?_append_right (by omega), Nat.add_sub_cancel_left]; exact hj) e
    omega, fun k q hk => h.2 (a.length + k) q (by rw [List.getElem?_append_right (by omega), Nat.add_sub_cancel_left]; exact hk)⟩
theorem D_lr {A : Nat → Prop} {a b : va_W} (h : va_D A (a ++ b)) {i j : Nat} {p q : Nat × va_E} (hi : a[i]? = some p) (hj : b[j]? = some q) : p.1 ≠ q.1 := by
  intro e
  have hl := (List.getElem?_eq_some_iff.mp hi).1
  have := h.1 i (a.length + j) p q (by rw [List.getElem?_append_left hl]; exact hi) (by rw [List.getElem?_append_right (by omega), Nat.add_sub_cancel_left]; exact hj) e
  omega
/-- behind a call: the framed cells are as they were -/
theorem fr_join {X0 : Nat → Prop} {D : va_G} {cl : List vw_C} {ws G w1 : va_W} {H H1 : Heap} (hP : va_P D cl (ws ++ G) H) (hD : va_D X0 (ws ++ G)) (hsub : ∀ q, va_A ws H.size q → X0 q) (hk : ∀ q : Nat, q < H.size → ¬ va_A ws H.size q → H1[q]? = H[q]?) (hP1 : va_P D cl w1 H1) (hD1 : va_D (va_A ws H.size) w1) :
    va_P D cl (w1 ++ G) H1 ∧ va_D X0 (w1 ++ G) := by
  have apart : ∀ (k : Nat) (q : Nat × va_E), G[k]? = some q → q.1 < H.size ∧ ¬ va_A ws H.size q.1 := by
    intro k q hq
    have hl := va_at.lt (P_r hP k q hq)
    refine ⟨hl, fun w => ?_⟩
    rcases w with ⟨j, e, w⟩ | w
    · exact D_lr hD w hq rfl
    · omega
  refine ⟨hP1.app ((P_r hP).kept (fun k q hq => hk q.1 (apart k q hq).1 (apart k q hq).2)), (hD1.weaken (fun k q _ h => hsub q.1 h)).app (D_r hD) (fun i j p q hi hj e => ?_)⟩
  exact (apart j q hj).2 (e ▸ hD1.2 i p hi)
theorem vF_le {A B : Nat → Prop} {st t : State} (h : va_F B st t) (hAB : ∀ q, B q → A q) : va_F A st t := ⟨h.1, fun q h1 h2 => h.2 q h1 (fun w => h2 (hAB q w))⟩
/-- a contract where nothing is thrown -/
theorem met_quiet {l : Launch} {y : MethodName} {ws : List Cond} {rm : Room} {Pc : Array Value → State → Prop} {Qc : Array Value → State → Outcome → State → Prop} {D : va_G} {cy : Nat → ClassId} {X0 : Nat → Prop} {n : Nat} {ad : Nat → Nat} {mc ms : Nat} {free : Addr → Prop} (hM : vx_Met l y ws rm Pc Qc (gX D cy X0 n ad (fun _ _ => False)) mc ms free) : vx_Met l y ws rm Pc Qc noX mc ms free := by
  intro p e ha9 hc9 hk9 s m args below hf9 happ9 hP9 hK9
  obtain ⟨n, o, h1, h2, h3, h4⟩ := hM p e ha9 hc9 hk9 s m args below hf9 happ9 hP9 hK9
  refine ⟨n, o, h1, h2, h3, h4.elim Or.inl (fun hq => ?_)⟩
  obtain ⟨q, w1, E, ce, L, hx, w3⟩ := hq
  obtain ⟨⟨μ, dv, w, -⟩, -⟩ := hx
  exact w.elim
section GlCalls
variable {D : va_G} {cy : Nat → ClassId} {X0 : Nat → Prop} {nn : Nat} {ad : Nat → Nat} {F9 : va_W} {d kc ks : Nat} {y : MI} {PQ : Array Value → State → Outcome → State → Prop} {PX : String → State → State → Prop} {pc : Nat} {ls st : List Value} {μ : Mem}
/-- behind a call of a method that throws nothing -/
theorem gl_backV {X2 : Nat → Prop} {PQ' : State → Outcome → State → Prop} {p : Program} {l : Launch} {e : Env} {R : Room} {s : State} {m : MethodId} {args : Array Value} {below : List Frame} {meth : Method} {c : Code} {H : Heap} {locs : List Loc} {cells slots kc' ks' : Nat} {Q9 : State → Prop} {lsA : Array Slot} {st0 rest : List Value}
    (hrun : vx_Run p l e R s m args below meth c H locs cells slots kc' ks' (F0 m pc lsA st0) rest PQ' noX X2) (hF : ∀ st o t, PQ' st o t → va_F X2 st t) (hsub : ∀ q, X2 q → X0 q) (hS : va_S X0 s.heap H locs)
    (hcont : ∀ (H' : Heap) (locs' : List Loc) (v : Option Value) (st₀ t : State), st₀.heap = H → t.heap = H' → PQ' st₀ (.returned v) t → va_S X0 s.heap H' locs' → W p l e R s m args below meth c H' locs' (cells + kc') (slots + ks') Q9 (F0 m (pc + 3) lsA (v.toList ++ rest))) :
    W p l e R s m args below meth c H locs cells slots Q9 (F0 m pc lsA st0) := by
  intro T hT X9
  rcases hrun T hT X9 with hr | hr
  · obtain ⟨v, st₀, t, T', L, h0, X', hL, e1, e2, hq, st9⟩ := hr
    obtain ⟨hz, hk⟩ := vF_le (hF _ _ _ hq) hsub
    rw [h0] at hz hk
    have hS' : va_S X0 s.heap T'.heap (locs ++ L) := ⟨Nat.le_trans hS.1 (by rw [e1]; exact hz), fun q h1 h2 => by rw [e1, hk q (Nat.lt_of_lt_of_le h1 hS.1) h2]; exact hS.2.1 q h1 h2, fun q hq => by
        rcases List.mem_append.mp hq with h | h
        · exact hS.2.2 q h
        · exact hsub _ (hL q h)⟩
    obtain ⟨t2, a1, b1⟩ := hcont T'.heap (locs ++ L) v st₀ t h0 e1.symm hq hS' T' rfl X'
    exact ⟨t2, st9 t2 a1, b1⟩
  · obtain ⟨q, st₀, t, T', L, E, ce, h0, X', hL, e1, e2, w, -⟩ := hr
    exact w.elim
/-- what the caller knows behind a framed call -/
theorem gl_cont {Q : Option Value → Mem → Prop} {rest : List Value} {kc' ks' kc2 ks2 : Nat} (hQ : ∀ r μ', Q r μ' → gl D cy X0 nn ad F9 d kc2 ks2 y PQ PX (pc + 3) ls (psh r rest) μ') {p : Program} {l : Launch} {e : Env} {R : Room} {s : State} {m : MethodId} {args : Array Value} {below : List Frame} {meth : Method} {c : Code} {mc ms : Nat}
    (hc : cx nn d y p l R s m args meth c D cy X0 mc ms nn ad) (ho : ao s) {H : Heap} {locs : List Loc} {cells slots : Nat} {lsA : Array Slot} {dv : UInt64} {E : va_W} (hP : va_P D vwCl ((wsl cy dv ad μ nn ++ E) ++ F9) H) (hD : va_D X0 ((wsl cy dv ad μ nn ++ E) ++ F9)) (hS : va_S X0 s.heap H locs) (hl : lh ad lsA y.2.2.1 ls) (h1 : cells + kc' + kc2 ≤ mc) (h2 : slots + ks' + ks2 ≤ ms) {a : Array Value} {st0 : List Value}
    (hrun : vx_Run p l e R s m args below meth c H locs cells slots kc' ks' (F0 m pc lsA st0) (rest.map (av_l ad)) (gQ D cy (va_A (wsl cy dv ad μ nn ++ E) H.size) nn ad Q a) noX (va_A (wsl cy dv ad μ nn ++ E) H.size)) :
    W p l e R s m args below meth c H locs cells slots (vx_MQ below PQ PX args s mc ms X0) (F0 m pc lsA st0) := by
  have hsub := sub_le hD hc.2.2.2.2.2.2.2.2.2.2.2.2.2.2.1 hS
  refine gl_backV hrun (fun st o t h => h.2) hsub hS (fun H' locs' v st₀ t e1 e2 hq hS' => ?_)
  obtain ⟨⟨r, μ', dv', hv, hp, hw⟩, hF⟩ := hq
  have hv' : v = r.map (av_l ad) := by injection hv
  subst hv'
  obtain ⟨hR', E', hE', hP', hD'⟩ := hw
  rw [e2] at hP'
  obtain ⟨z1, z2⟩ := fr_join hP hD hsub (fun q h1 h2 => by rw [← e2, ← e1]; exact hF.2 q (by rw [e1]; exact h1) h2) hP' hD'
  rw [List.append_assoc] at z1 z2
  rw [psh_map]
  exact gl_use (hQ r μ' hp) hc ho ⟨hR', E', hE', z1, z2⟩ hS' hl (by omega) (by omega)
theorem gl_callS {z' d' kc' ks' kc2 ks2 idx n : Nat} {y' : MI} {as rest : List Value} (hd : decode y.2.1 pc = .ok (.invokestatic idx, 3)) (hst : st = as.reverse ++ rest) (hlk : Cond.methodLink y.1.cls idx y'.1 ∈ aw) (hsc : y'.2.2.2.2.2 = none ∨ y'.2.2.2.2.2 = y.2.2.2.2.2) (hm : mok0 y' n ∧ Cond.static y'.1 ∈ aw)
    (hn : as.length = n) (hl' : n ≤ y'.2.2.1) (hcat : ∀ v ∈ as, v.category = 1) (hW : (rest.map fun v => v.category).sum ≤ 8) (hz : z' ≤ nn) (hdd : d' + 1 ≤ d) (hk : kc' + kc2 ≤ kc) (hks : ks' + ks2 ≤ ks)
    (K : mt z' d' kc' ks' y' as (fun r μ' => gl D cy X0 nn ad F9 d kc2 ks2 y PQ PX (pc + 3) ls (psh r rest) μ') (fun _ _ => False) μ) : gl D cy X0 nn ad F9 d kc ks y PQ PX pc ls st μ := by
  subst hst
  intro p l e R s m args below meth c mc ms hc ho H locs cells slots lsA dv hw hS hl h1 h2
  obtain ⟨c1, c2, c3, c4, c5, c6, c7, c8, c9, c10, c11, c12, c13, c14, c15, c16, c17, c18, c19⟩ := id hc
  obtain ⟨⟨k1, k2, k3, k4, k5, k6⟩, k7⟩ := hm
  obtain ⟨hR, E, hE, hP, hD⟩ := hw
  rw [← List.append_assoc] at hP hD
  have hsub := sub_le hD c15 hS
  have hM := met_quiet (mt_vxS (l := l) (D := D) (cy := cy) (X0 := va_A (wsl cy dv ad μ nn ++ E) H.size) (n := nn) (ad := ad) (dv := dv) K k3 k6 (by omega) hcat c18 (by omega) c10)
  have hcw : CallB R s args y.1.cls idx y'.1 y'.2.1 y'.2.2.1 y'.2.2.2.1 (wsa y') (rmd d' kc' ks') kc' ks' n ∧ (Cond.static y'.1).before args s = true :=
    ⟨callB_of n c6 (good_wsa k1) rfl rfl rfl (c6 _ k2) (c6 _ hlk) k4 ⟨by show d' + 1 ≤ _; omega, by show 8 + (y'.2.2.1 + 11) + 40 * d' ≤ _; omega⟩, c6 _ k7⟩
  have hp : PreS s H (gPs y' D cy (va_A (wsl cy dv ad μ nn ++ E) H.size) nn ad dv μ as) (as.map (av_l ad)) :=
    ⟨gPs_blind, fun U hU hWU => ⟨⟨rfl, by rw [hU]; exact ⟨hR, E, hE, P_l hP, (D_l hD).self⟩, by rw [hU]; exact kx_nar (kx_moved hWU hS c8) hsub, by rw [hU]; exact fun q hq => Or.inr hq⟩, hsc.elim scx_no (fun h => scx_nar (scx_mv c19 h hU hWU hS) hsub)⟩⟩
  refine gl_cont (kc' := kc') (ks' := ks') (kc2 := kc2) (ks2 := ks2) (rest := rest) (Q := fun r μ' => gl D cy X0 nn ad F9 d kc2 ks2 y PQ PX (pc + 3) ls (psh r rest) μ') (fun r μ' h => h) hc ho hP hD hS hl (by omega) (by omega) (a := (as.map (av_l ad)).toArray) ?_
  refine vx_runS (As := as.map (av_l ad)) (nL := y.2.2.1) ⟨c1, c2, c4, c5, c6⟩ hM hcw hp rfl (by rw [List.length_map]; exact hn) hl.1 ?_ (lv_room (by rw [av_sum]; exact hW)) hd ⟨by omega, by omega⟩
  simp [List.map_append, List.map_reverse]
theorem gl_callV {z' d' kc' ks' kc2 ks2 b idx n ci : Nat} {y' : MI} {as rest : List Value} {fs : List (Option Nat)} (hd : decode y.2.1 pc = .ok (.invokevirtual idx, 3)) (hst : st = as.reverse ++ .ref b :: rest) (hlk : Cond.methodLink y.1.cls idx y'.1 ∈ aw) (hm : mokV y' n) (hs : shp b = (0, ci, fs)) (hcl : ∃ T N, vwCl[ci]? = some (y'.1.cls, T, N)) (hb : b < nn)
    (hn : as.length = n) (hl' : n + 1 ≤ y'.2.2.1) (hcat : ∀ v ∈ as, v.category = 1) (hW : (rest.map fun v => v.category).sum ≤ 8) (hz : z' ≤ nn) (hdd : d' + 1 ≤ d) (hk : kc' + kc2 ≤ kc) (hks : ks' + ks2 ≤ ks)
    (K : mt z' d' kc' ks' y' (.ref b :: as) (fun r μ' => gl D cy X0 nn ad F9 d kc2 ks2 y PQ PX (pc + 3) ls (psh r rest) μ') (fun _ _ => False) μ) : gl D cy X0 nn ad F9 d kc ks y PQ PX pc ls st μ := by
  subst hst
  intro p l e R s m args below meth c mc ms hc ho H locs cells slots lsA dv hw hS hl h1 h2
  obtain ⟨c1, c2, c3, c4, c5, c6, c7, c8, c9, c10, c11, c12, c13, c14, c15, c16, c17, c18, c19⟩ := id hc
  obtain ⟨⟨k1, k2, k3, k4, k5, k6, k9⟩, k7, k8⟩ := hm
  obtain ⟨TT, NN, hcl⟩ := hcl
  obtain ⟨hR, E, hE, hP, hD⟩ := hw
  rw [← List.append_assoc] at hP hD
  have hsub := sub_le hD c15 hS
  have hM := met_quiet (mt_vxS (l := l) (D := D) (cy := cy) (X0 := va_A (wsl cy dv ad μ nn ++ E) H.size) (n := nn) (ad := ad) (dv := dv) K k3 k6 (by simp; omega) (by simpa using ⟨rfl, hcat⟩) c18 (by omega) c10)
  have hcw : CallW R s args y.1.cls y'.1.cls idx y'.1 y'.2.1 y'.2.2.1 y'.2.2.2.1 (wsa y') (rmd d' kc' ks') kc' ks' n :=
    ⟨callB_of n c6 (good_wsa k1) rfl rfl rfl (c6 _ k2) (c6 _ hlk) k4 ⟨by show d' + 1 ≤ _; omega, by show 8 + (y'.2.2.1 + 11) + 40 * d' ≤ _; omega⟩, c6 _ k7, c6 _ k8⟩
  have he : (wsl cy dv ad μ nn ++ E)[b]? = some (ad b, .inr (ci, flv ad μ b 0 fs)) := by rw [wsl_get (by omega), ent_0 hs]
  have hp : PreV s H y'.1.cls (ad b) (gPs y' D cy (va_A (wsl cy dv ad μ nn ++ E) H.size) nn ad dv μ (.ref b :: as)) (as.map (av_l ad)) :=
    ⟨gPs_blind, va_recv c8.1 (P_l hP) hcl he, fun U hU hWU => ⟨⟨rfl, by rw [hU]; exact ⟨hR, E, hE, P_l hP, (D_l hD).self⟩, by rw [hU]; exact kx_nar (kx_moved hWU hS c8) hsub, by rw [hU]; exact fun q hq => Or.inr hq⟩, scx_no k9⟩⟩
  refine gl_cont (kc' := kc') (ks' := ks') (kc2 := kc2) (ks2 := ks2) (rest := rest) (Q := fun r μ' => gl D cy X0 nn ad F9 d kc2 ks2 y PQ PX (pc + 3) ls (psh r rest) μ') (fun r μ' h => h) hc ho hP hD hS hl (by omega) (by omega) (a := (Value.ref (ad b) :: as.map (av_l ad)).toArray) ?_
  refine vx_runV (As := as.map (av_l ad)) (b := ad b) (nL := y.2.2.1) ⟨c1, c2, c4, c5, c6⟩ hM hcw hp rfl (by rw [List.length_map]; exact hn) hl.1 ?_ (lv_room (by rw [av_sum]; exact hW)) hd ⟨by omega, by omega⟩
  simp [List.map_append, List.map_reverse, av_l]
end GlCalls
