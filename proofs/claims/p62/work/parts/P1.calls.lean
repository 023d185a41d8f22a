/-! CALLS beside further cells: methods that are given a text, methods that make cells -/
theorem met_of {l : Launch} {y : MethodName} {ws : List Cond} {rm : Room} {Pc : Array Value → State → Prop} {Qc : Array Value → State → Outcome → State → Prop} {mc ms : Nat} {free : Addr → Prop} (hM : vx_Met l y ws rm Pc Qc noX mc ms free) : Met l y ws rm Pc Qc mc ms free := by
  intro p e ha9 hc9 hk9 s m args below hf9 happ9 hP9 hK9
  obtain ⟨n, o, h1, h2, h3, h4⟩ := hM p e ha9 hc9 hk9 s m args below hf9 happ9 hP9 hK9
  refine ⟨n, o, h1, h2, h3, h4.elim id (fun hq => ?_)⟩
  obtain ⟨q, -, E, ce, L, hx, -⟩ := hq
  exact hx.elim
theorem gl_backM {X0 X2 : Nat → Prop} {p : Program} {l : Launch} {e : Env} {R : Room} {s : State} {m : MethodId} {args : Array Value} {below : List Frame} {meth : Method} {c : Code} {H : Heap} {locs : List Loc} {cells slots kc' ks' pc : Nat} {Q : State → Prop} {lsA : Array Slot} {st0 rest : List Value} {PQ' : State → Outcome → State → Prop}
    (hrun : va_Run p l e R s m args below meth c H locs cells slots kc' ks' (F0 m pc lsA st0) rest PQ' X2) (hF : ∀ st o t, PQ' st o t → va_F X2 st t) (hsub : ∀ q, X2 q → X0 q) (hS : va_S X0 s.heap H locs)
    (hcont : ∀ (H' : Heap) (locs' : List Loc) (v : Option Value) (st₀ t : State), st₀.heap = H → t.heap = H' → PQ' st₀ (.returned v) t → va_S X0 s.heap H' locs' → W p l e R s m args below meth c H' locs' (cells + kc') (slots + ks') Q (F0 m (pc + 3) lsA (v.toList ++ rest))) :
    W p l e R s m args below meth c H locs cells slots Q (F0 m pc lsA st0) := by
  intro T hT X9
  obtain ⟨v, st₀, t, T', L, h0, X', hL, e1, e2, hq, st9⟩ := hrun T hT X9
  obtain ⟨hz, hk⟩ := vF_le (hF _ _ _ hq) hsub
  rw [h0] at hz hk
  have hS' : va_S X0 s.heap T'.heap (locs ++ L) := ⟨Nat.le_trans hS.1 (by rw [e1]; exact hz), fun q h1 h2 => by rw [e1, hk q (Nat.lt_of_lt_of_le h1 hS.1) h2]; exact hS.2.1 q h1 h2, fun q hq => by
      rcases List.mem_append.mp hq with h | h
      · exact hS.2.2 q h
      · exact hsub _ (hL q h)⟩
  obtain ⟨t2, a1, b1⟩ := hcont T'.heap (locs ++ L) v st₀ t h0 e1.symm hq hS' T' rfl X'
  exact ⟨t2, st9 t2 a1, b1⟩
theorem txt_mv {X : Nat → Prop} {a b L : Nat} {xs : Nat → Int32} {s U : State} {H : Heap} (h : txt X a b L xs s H) (hv : s.vm.Alike U.vm) : txt X a b L xs U H :=
  ⟨va_O.moved hv h.1, va_OF.moved hv h.2.1, va_OF.moved hv h.2.2.1, va_T.moved hv h.2.2.2⟩
theorem fr_apart {X0 : Nat → Prop} {ws G : va_W} {D : va_G} {cl : List vw_C} {H : Heap} (hP : va_P D cl (ws ++ G) H) (hD : va_D X0 (ws ++ G)) : ∀ (k : Nat) (q : Nat × va_E), G[k]? = some q → ¬ va_A ws H.size q.1 := by
  intro k q hq w
  have hl := va_at.lt (P_r hP k q hq)
  rcases w with ⟨j, e, w⟩ | w
  · exact D_lr hD w hq rfl
  · omega
/-- a text in further cells -/
theorem txt_cell {D : va_G} {cy : Nat → ClassId} {X : Nat → Prop} {s : State} {args : Array Value} {H : Heap} {F9 : va_W} {a b L k k' : Nat} {xs : Nat → Int32} {h z : Value} (hts : ∀ w ∈ aw, w.before args s = true) (hK : va_K D vwCl (tys cy) s) (hP : va_P D vwCl F9 H) (hx : ∀ (k : Nat) (q : Nat × va_E), F9[k]? = some q → ¬ X q.1)
    (h0 : F9[k]? = some (a, .inr (0, [.ref b, .int (iI 0), h, z]))) (h1 : F9[k']? = some (b, .inl (cy 2, L, .inl xs))) : txt X a b L xs s H := by
  obtain ⟨r, q0, cell, q1, q2, q3, q4⟩ := hP _ _ h0
  have hr : r = (RJ0, TJ0, 4) := Option.some.inj (q0.symm.trans rfl)
  subst hr
  obtain ⟨hS, hfc, kC, hkC, hkind⟩ := hK.1 0 _ rfl
  refine ⟨?_, ?_, ?_, ?_⟩
  · obtain ⟨cell', g1, g2, g3⟩ := va_recv (q := (RJ0, TJ0, 4)) hK hP rfl h0
    exact ⟨cell', g1, g2, g3, hx _ _ h0⟩
  · obtain ⟨cf, kf, fi, f, hi, hsl⟩ := hS 1 (by decide)
    exact ⟨cf, kf, fi, f, cell, hi, (u_facts hfc hkC (u_lays hts iaJ0 (k := 1) (by decide)) hi).1, q1, (by rw [q3]; intro w; cases w), by rw [hsl]; exact q4 1 (by decide), hx _ _ h0⟩
  · obtain ⟨cf, kf, fi, f, hi, hsl⟩ := hS 0 (by decide)
    exact ⟨cf, kf, fi, f, cell, hi, (u_facts hfc hkC (u_lays hts iaJ0 (k := 0) (by decide)) hi).1, q1, (by rw [q3]; intro w; cases w), by rw [hsl]; exact q4 0 (by decide), hx _ _ h0⟩
  · have hc : H[b]? = some (vp_cell (cy 2) (L, .inl xs)) := hP _ _ h1
    rw [vp_cell_i] at hc
    exact ⟨_, hc, (hK.2 2 (cy 2, .byte) rfl).1 L _, (by intro w; cases w), Nat.le_of_eq (arrV_size _ _ _).symm, by rw [arrV_size], fun j hj => arrV_read _ _ hj, hx _ _ h1⟩
/-- a text stands at ta, its bytes at tb: a constant's, or one in further cells -/
def tav (cy : Nat → ClassId) (ad : Nat → Nat) (F9 : va_W) (ta tb L : Nat) (xs : Nat → Int32) : Prop := L < 1000 ∧ ((∃ i q, sc_l[i]? = some q ∧ ta = ad (7000 + i) ∧ tb = ad (7200 + i) ∧ L = q.2.2.length ∧ xs = fun j => sc_b q.2.2 j) ∨
  ∃ (k k' : Nat) (h z : Value), F9[k]? = some (ta, .inr (0, [.ref tb, .int (iI 0), h, z])) ∧ F9[k']? = some (tb, .inl (cy 2, L, .inl xs)))
theorem tav_txt {D : va_G} {cy : Nat → ClassId} {X : Nat → Prop} {ad : Nat → Nat} {s : State} {args : Array Value} {H : Heap} {F9 : va_W} {ta tb L : Nat} {xs : Nat → Int32} (h : tav cy ad F9 ta tb L xs) (hts : ∀ w ∈ aw, w.before args s = true) (hk : kx D cy X ad s H) (hP : va_P D vwCl F9 H) (hx : ∀ (k : Nat) (q : Nat × va_E), F9[k]? = some q → ¬ X q.1) : txt X ta tb L xs s H := by
  rcases h.2 with ⟨i, q, hi, e1, e2, e3, e4⟩ | ⟨k, k', h9, z9, g1, g2⟩
  · obtain ⟨-, f2, f3, f4, f5⟩ := hk.2.1 i q hi
    rw [e1, e2, e3, e4]
    exact ⟨f2, f3, f4, f5⟩
  · exact txt_cell hts hk.1 hP hx g1 g2
section CallsT
variable {D : va_G} {cy : Nat → ClassId} {X0 : Nat → Prop} {nn : Nat} {ad : Nat → Nat} {F9 : va_W} {d kc ks : Nat} {y : MI} {PQ : Array Value → State → Outcome → State → Prop} {PX : String → State → State → Prop} {pc : Nat} {ls st : List Value} {μ : Mem}
/-- what the caller knows behind a framed call whose numbers differ from 6000 on -/
theorem gl_contA {ad' : Nat → Nat} (ea : ∀ k, k < 6000 → ad' k = ad k) (hnn : 276 ≤ nn ∧ nn ≤ 293) {Q : Option Value → Mem → Prop} {rest : List Value} {kc' ks' kc2 ks2 : Nat} (hQ : ∀ r μ', Q r μ' → r.map (av_l ad') = r.map (av_l ad) ∧ gl D cy X0 nn ad F9 d kc2 ks2 y PQ PX (pc + 3) ls (psh r rest) μ') {p : Program} {l : Launch} {e : Env} {R : Room} {s : State} {m : MethodId} {args : Array Value} {below : List Frame} {meth : Method} {c : Code} {mc ms : Nat}
    (hc : cx nn d y p l R s m args meth c D cy X0 mc ms nn ad) (ho : ao s) {H : Heap} {locs : List Loc} {cells slots : Nat} {lsA : Array Slot} {dv : UInt64} {E : va_W} (hP : va_P D vwCl ((wsl cy dv ad μ nn ++ E) ++ F9) H) (hD : va_D X0 ((wsl cy dv ad μ nn ++ E) ++ F9)) (hS : va_S X0 s.heap H locs) (hl : lh ad lsA y.2.2.1 ls) (h1 : cells + kc' + kc2 ≤ mc) (h2 : slots + ks' + ks2 ≤ ms) {a : Array Value} {st0 : List Value}
    (hrun : va_Run p l e R s m args below meth c H locs cells slots kc' ks' (F0 m pc lsA st0) (rest.map (av_l ad)) (gQ D cy (va_A (wsl cy dv ad μ nn ++ E) H.size) nn ad' Q a) (va_A (wsl cy dv ad μ nn ++ E) H.size)) :
    W p l e R s m args below meth c H locs cells slots (vx_MQ below PQ PX args s mc ms X0) (F0 m pc lsA st0) := by
  have hsub := sub_le hD hc.2.2.2.2.2.2.2.2.2.2.2.2.2.2.1 hS
  refine gl_backM hrun (fun st o t h => h.2) hsub hS (fun H' locs' v st₀ t e1 e2 hq hS' => ?_)
  obtain ⟨⟨r, μ', dv', hv, hp, hw⟩, hF⟩ := hq
  have hv' : v = r.map (av_l ad') := by injection hv
  subst hv'
  obtain ⟨hr, K⟩ := hQ r μ' hp
  obtain ⟨hR', E', hE', hP', hD'⟩ := hw
  rw [e2] at hP'
  rw [wsl_adf hnn.2 (fun k hk => ea k (by omega))] at hP' hD'
  obtain ⟨z1, z2⟩ := fr_join hP hD hsub (fun q h1 h2 => by rw [← e2, ← e1]; exact hF.2 q (by rw [e1]; exact h1) h2) hP' hD'
  rw [List.append_assoc] at z1 z2
  rw [hr, psh_map]
  exact gl_use K hc ho ⟨hR', E', sbx_ad hE' (ea 5000 (by decide)).symm (ea 5001 (by decide)).symm, z1, z2⟩ hS' hl (by omega) (by omega)
/-- the numbers of a text that a method is given -/
def adt (ad : Nat → Nat) (ta tb : Nat) : Nat → Nat := ad1 (ad1 ad 6100 ta) 6101 tb
theorem adt_n {ta tb k : Nat} (h : k ≠ 6100 ∧ k ≠ 6101) : adt ad ta tb k = ad k := (ad1_n h.2).trans (ad1_n h.1)
theorem adt_0 {ta tb : Nat} : adt ad ta tb 6100 = ta := (ad1_n (by decide)).trans ad1_s
theorem adt_1 {ta tb : Nat} : adt ad ta tb 6101 = tb := ad1_s
theorem adt_r {ta tb : Nat} {r : Option Value} (h0 : r ≠ some (.ref 6100)) (h1 : r ≠ some (.ref 6101)) : r.map (av_l (adt ad ta tb)) = r.map (av_l ad) := by
  cases r with
  | none => rfl
  | some v =>
    cases v with
    | ref k =>
      show some (Value.ref (adt ad ta tb k)) = some (Value.ref (ad k))
      rw [adt_n ⟨fun w => h0 (by rw [w]), fun w => h1 (by rw [w])⟩]
    | _ => rfl
/-- a call on the builder with a text -/
theorem gl_callOt {z' d' kc' ks' kc2 ks2 idx n ta tb L : Nat} {xs : Nat → Int32} {y' : MI} {as as' rest : List Value} (hd : decode y.2.1 pc = .ok (.invokevirtual idx, 3)) (hst : st = as.reverse ++ .ref 5000 :: rest) (hlk : Cond.methodLink y.1.cls idx y'.1 ∈ aw) (hm : mok0 y' n ∧ Cond.instanceMethod y'.1 ∈ aw) (hse : selO y'.1) (hsc : y'.2.2.2.2.2 = some (true, L, xs)) (hnn : 276 ≤ nn ∧ nn ≤ 293) (htx : tav cy ad F9 ta tb L xs)
    (has : as'.map (av_l (adt ad ta tb)) = as.map (av_l ad)) (hn : as.length = n) (hl' : n + 1 ≤ y'.2.2.1) (hcat : ∀ v ∈ as', v.category = 1) (hW : (rest.map fun v => v.category).sum ≤ 8) (hz : z' ≤ nn) (hdd : d' + 1 ≤ d) (hk : kc' + kc2 ≤ kc) (hks : ks' + ks2 ≤ ks)
    (K : mt z' d' kc' ks' y' (.ref 5000 :: as') (fun r μ' => (r ≠ some (.ref 6100) ∧ r ≠ some (.ref 6101)) ∧ gl D cy X0 nn ad F9 d kc2 ks2 y PQ PX (pc + 3) ls (psh r rest) μ') (fun _ _ => False) μ) : gl D cy X0 nn ad F9 d kc ks y PQ PX pc ls st μ := by
  subst hst
  intro p l e R s m args below meth c mc ms hc ho H locs cells slots lsA dv hw hS hl h1 h2
  obtain ⟨c1, c2, c3, c4, c5, c6, c7, c8, c9, c10, c11, c12, c13, c14, c15, c16, c17, c18, c19⟩ := id hc
  obtain ⟨⟨k1, k2, k3, k4, k5, k6⟩, k7⟩ := hm
  have k8 := hse args s c6 c8.2.2.2.2.2.2.2.2.2.2
  obtain ⟨hR, E, hE, hP, hD⟩ := hw
  rw [← List.append_assoc] at hP hD
  have hsub := sub_le hD c15 hS
  have hlen : as'.length = n := by
    have := congrArg List.length has
    simp only [List.length_map] at this
    omega
  have hM := met_of (met_quiet (mt_vxS (l := l) (D := D) (cy := cy) (X0 := va_A (wsl cy dv ad μ nn ++ E) H.size) (n := nn) (ad := adt ad ta tb) (dv := dv) K k3 k6 (by simp; omega) (by simpa using ⟨rfl, hcat⟩) c18 hz c10))
  have hcw : CallW R s args y.1.cls RJ4 idx y'.1 y'.2.1 y'.2.2.1 y'.2.2.2.1 (wsa y') (rmd d' kc' ks') kc' ks' n :=
    ⟨callB_of n c6 (good_wsa k1) rfl rfl rfl (c6 _ k2) (c6 _ hlk) k4 ⟨by show d' + 1 ≤ _; omega, by show 8 + (y'.2.2.1 + 11) + 40 * d' ≤ _; omega⟩, c6 _ k7, k8⟩
  obtain ⟨xE, rE, sE, hxE⟩ : ∃ x r fs, E = (ad 5000, .inr (1, fs)) :: r ∧ x = (ad 5000, (.inr (1, fs) : va_E)) := by
    rcases hE with ⟨g, -⟩ | ⟨-, sa, ml, e, -⟩
    · omega
    · exact ⟨_, _, _, e, rfl⟩
  have he : (wsl cy dv ad μ nn ++ E)[(wsl cy dv ad μ nn).length]? = some (ad 5000, .inr (1, sE)) := by rw [hxE.1]; exact ap_mid
  have ew : wsl cy dv (adt ad ta tb) μ nn = wsl cy dv ad μ nn := wsl_adf hnn.2 (fun k hk => adt_n ⟨by omega, by omega⟩)
  have htt := tav_txt htx c6 (kx_nar (kx_moved (State.WarmedH.refl s) hS c8) hsub) (P_r hP) (fr_apart hP hD)
  have hp : PreV s H RJ4 (ad 5000) (gPs y' D cy (va_A (wsl cy dv ad μ nn ++ E) H.size) nn (adt ad ta tb) dv μ (.ref 5000 :: as')) (as.map (av_l ad)) :=
    ⟨gPs_blind, va_recv (q := (RJ4, TJ4, 4)) c8.1 (P_l hP) rfl he, fun U hU hWU => ⟨⟨by
        rw [List.map_cons, has]
        show (Value.ref (ad 5000) :: as.map (av_l ad)).toArray = (Value.ref (adt ad ta tb 5000) :: as.map (av_l ad)).toArray
        rw [adt_n (by decide)], by rw [hU]; exact ⟨hR, E, sbx_ad hE (adt_n (by decide)) (adt_n (by decide)), by rw [ew]; exact P_l hP, by rw [ew]; exact (D_l hD).self⟩, by
        rw [hU]
        have hx := kx_nar (kx_moved hWU hS c8) hsub
        exact ⟨hx.1, stb_ad hx.2 (fun k hk => adt_n ⟨by omega, by omega⟩)⟩, by rw [hU]; exact fun q hq => Or.inr hq⟩, fun L' xs' => ⟨fun e => (by rw [hsc] at e; cases e), fun e => by
        rw [hsc] at e
        cases e
        rw [adt_0, adt_1, hU]
        exact ⟨htx.1, txt_mv htt hWU.alike⟩⟩⟩⟩
  refine gl_contA (ad' := adt ad ta tb) (fun k hk => adt_n ⟨by omega, by omega⟩) hnn (kc' := kc') (ks' := ks') (kc2 := kc2) (ks2 := ks2) (rest := rest) (Q := fun r μ' => (r ≠ some (.ref 6100) ∧ r ≠ some (.ref 6101)) ∧ gl D cy X0 nn ad F9 d kc2 ks2 y PQ PX (pc + 3) ls (psh r rest) μ') (fun r μ' h => ⟨adt_r h.1.1 h.1.2, h.2⟩) hc ho hP hD hS hl (by omega) (by omega) (a := (Value.ref (ad 5000) :: as.map (av_l ad)).toArray) ?_
  refine va_runV (As := as.map (av_l ad)) (b := ad 5000) (nL := y.2.2.1) ⟨c1, c2, c4, c5, c6⟩ hM hcw hp rfl (by rw [List.length_map]; exact hn) hl.1 ?_ (lv_room (by rw [av_sum]; exact hW)) hd ⟨by omega, by omega⟩
  simp [List.map_append, List.map_reverse, av_l]
/-- a static method with a text -/
theorem gl_callSt {z' d' kc' ks' kc2 ks2 idx n ta tb L : Nat} {xs : Nat → Int32} {y' : MI} {as as' rest : List Value} (hd : decode y.2.1 pc = .ok (.invokestatic idx, 3)) (hst : st = as.reverse ++ rest) (hlk : Cond.methodLink y.1.cls idx y'.1 ∈ aw) (hm : mok0 y' n ∧ Cond.static y'.1 ∈ aw) (hsc : y'.2.2.2.2.2 = some (true, L, xs)) (hnn : 276 ≤ nn ∧ nn ≤ 293) (htx : tav cy ad F9 ta tb L xs)
    (has : as'.map (av_l (adt ad ta tb)) = as.map (av_l ad)) (hn : as.length = n) (hl' : n ≤ y'.2.2.1) (hcat : ∀ v ∈ as', v.category = 1) (hW : (rest.map fun v => v.category).sum ≤ 8) (hz : z' ≤ nn) (hdd : d' + 1 ≤ d) (hk : kc' + kc2 ≤ kc) (hks : ks' + ks2 ≤ ks)
    (K : mt z' d' kc' ks' y' as' (fun r μ' => (r ≠ some (.ref 6100) ∧ r ≠ some (.ref 6101)) ∧ gl D cy X0 nn ad F9 d kc2 ks2 y PQ PX (pc + 3) ls (psh r rest) μ') (fun _ _ => False) μ) : gl D cy X0 nn ad F9 d kc ks y PQ PX pc ls st μ := by
  subst hst
  intro p l e R s m args below meth c mc ms hc ho H locs cells slots lsA dv hw hS hl h1 h2
  obtain ⟨c1, c2, c3, c4, c5, c6, c7, c8, c9, c10, c11, c12, c13, c14, c15, c16, c17, c18, c19⟩ := id hc
  obtain ⟨⟨k1, k2, k3, k4, k5, k6⟩, k7⟩ := hm
  obtain ⟨hR, E, hE, hP, hD⟩ := hw
  rw [← List.append_assoc] at hP hD
  have hsub := sub_le hD c15 hS
  have hlen : as'.length = n := by
    have := congrArg List.length has
    simp only [List.length_map] at this
    omega
  have hM := met_of (met_quiet (mt_vxS (l := l) (D := D) (cy := cy) (X0 := va_A (wsl cy dv ad μ nn ++ E) H.size) (n := nn) (ad := adt ad ta tb) (dv := dv) K k3 k6 (by omega) hcat c18 hz c10))
  have hcw : CallB R s args y.1.cls idx y'.1 y'.2.1 y'.2.2.1 y'.2.2.2.1 (wsa y') (rmd d' kc' ks') kc' ks' n ∧ (Cond.static y'.1).before args s = true :=
    ⟨callB_of n c6 (good_wsa k1) rfl rfl rfl (c6 _ k2) (c6 _ hlk) k4 ⟨by show d' + 1 ≤ _; omega, by show 8 + (y'.2.2.1 + 11) + 40 * d' ≤ _; omega⟩, c6 _ k7⟩
  have ew : wsl cy dv (adt ad ta tb) μ nn = wsl cy dv ad μ nn := wsl_adf hnn.2 (fun k hk => adt_n ⟨by omega, by omega⟩)
  have htt := tav_txt htx c6 (kx_nar (kx_moved (State.WarmedH.refl s) hS c8) hsub) (P_r hP) (fr_apart hP hD)
  have hp : PreS s H (gPs y' D cy (va_A (wsl cy dv ad μ nn ++ E) H.size) nn (adt ad ta tb) dv μ as') (as.map (av_l ad)) :=
    ⟨gPs_blind, fun U hU hWU => ⟨⟨by rw [has], by rw [hU]; exact ⟨hR, E, sbx_ad hE (adt_n (by decide)) (adt_n (by decide)), by rw [ew]; exact P_l hP, by rw [ew]; exact (D_l hD).self⟩, by
        rw [hU]
        have hx := kx_nar (kx_moved hWU hS c8) hsub
        exact ⟨hx.1, stb_ad hx.2 (fun k hk => adt_n ⟨by omega, by omega⟩)⟩, by rw [hU]; exact fun q hq => Or.inr hq⟩, fun L' xs' => ⟨fun e => (by rw [hsc] at e; cases e), fun e => by
        rw [hsc] at e
        cases e
        rw [adt_0, adt_1, hU]
        exact ⟨htx.1, txt_mv htt hWU.alike⟩⟩⟩⟩
  refine gl_contA (ad' := adt ad ta tb) (fun k hk => adt_n ⟨by omega, by omega⟩) hnn (kc' := kc') (ks' := ks') (kc2 := kc2) (ks2 := ks2) (rest := rest) (Q := fun r μ' => (r ≠ some (.ref 6100) ∧ r ≠ some (.ref 6101)) ∧ gl D cy X0 nn ad F9 d kc2 ks2 y PQ PX (pc + 3) ls (psh r rest) μ') (fun r μ' h => ⟨adt_r h.1.1 h.1.2, h.2⟩) hc ho hP hD hS hl (by omega) (by omega) (a := (as.map (av_l ad)).toArray) ?_
  refine va_runS (As := as.map (av_l ad)) (nL := y.2.2.1) ⟨c1, c2, c4, c5, c6⟩ hM hcw hp rfl (by rw [List.length_map]; exact hn) hl.1 ?_ (lv_room (by rw [av_sum]; exact hW)) hd ⟨by omega, by omega⟩
  simp [List.map_append, List.map_reverse]
/-- a method of String on the text that this method is given -/
theorem gl_callT {z' d' kc' ks' kc2 ks2 idx n L : Nat} {xs : Nat → Int32} {y' : MI} {as rest : List Value} (hd : decode y.2.1 pc = .ok (.invokevirtual idx, 3)) (hst : st = as.reverse ++ .ref 6100 :: rest) (hlk : Cond.methodLink y.1.cls idx y'.1 ∈ aw) (hm : mok0 y' n ∧ Cond.instanceMethod y'.1 ∈ aw ∧ Cond.selects y'.1.cls y'.1 y'.1 ∈ aw) (hi : y.2.2.2.2.2 = some (true, L, xs)) (hsc : y'.2.2.2.2.2 = y.2.2.2.2.2) (hy' : y'.1.cls = RJ0)
    (hn : as.length = n) (hl' : n + 1 ≤ y'.2.2.1) (hcat : ∀ v ∈ as, v.category = 1) (hW : (rest.map fun v => v.category).sum ≤ 8) (hz : z' ≤ nn) (hdd : d' + 1 ≤ d) (hk : kc' + kc2 ≤ kc) (hks : ks' + ks2 ≤ ks)
    (K : mt z' d' kc' ks' y' (.ref 6100 :: as) (fun r μ' => gl D cy X0 nn ad F9 d kc2 ks2 y PQ PX (pc + 3) ls (psh r rest) μ') (fun _ _ => False) μ) : gl D cy X0 nn ad F9 d kc ks y PQ PX pc ls st μ := by
  subst hst
  intro p l e R s m args below meth c mc ms hc ho H locs cells slots lsA dv hw hS hl h1 h2
  obtain ⟨c1, c2, c3, c4, c5, c6, c7, c8, c9, c10, c11, c12, c13, c14, c15, c16, c17, c18, c19⟩ := id hc
  obtain ⟨⟨k1, k2, k3, k4, k5, k6⟩, k7, k8⟩ := hm
  obtain ⟨g0, g1, g2, g3, g4⟩ := (c19 L xs).2 hi
  obtain ⟨hR, E, hE, hP, hD⟩ := hw
  rw [← List.append_assoc] at hP hD
  have hsub := sub_le hD c15 hS
  have hM := met_quiet (mt_vxS (l := l) (D := D) (cy := cy) (X0 := va_A (wsl cy dv ad μ nn ++ E) H.size) (n := nn) (ad := ad) (dv := dv) K k3 k6 (by simp; omega) (by simpa using ⟨rfl, hcat⟩) c18 (by omega) c10)
  have hcw : CallW R s args y.1.cls y'.1.cls idx y'.1 y'.2.1 y'.2.2.1 y'.2.2.2.1 (wsa y') (rmd d' kc' ks') kc' ks' n :=
    ⟨callB_of n c6 (good_wsa k1) rfl rfl rfl (c6 _ k2) (c6 _ hlk) k4 ⟨by show d' + 1 ≤ _; omega, by show 8 + (y'.2.2.1 + 11) + 40 * d' ≤ _; omega⟩, c6 _ k7, c6 _ k8⟩
  have hp : PreV s H y'.1.cls (ad 6100) (gPs y' D cy (va_A (wsl cy dv ad μ nn ++ E) H.size) nn ad dv μ (.ref 6100 :: as)) (as.map (av_l ad)) :=
    ⟨gPs_blind, by rw [hy']; exact va_Orecv g1 hS, fun U hU hWU => ⟨⟨rfl, by rw [hU]; exact ⟨hR, E, hE, P_l hP, (D_l hD).self⟩, by rw [hU]; exact kx_nar (kx_moved hWU hS c8) hsub, by rw [hU]; exact fun q hq => Or.inr hq⟩, scx_nar (scx_mv c19 hsc hU hWU hS) hsub⟩⟩
  refine gl_cont (kc' := kc') (ks' := ks') (kc2 := kc2) (ks2 := ks2) (rest := rest) (Q := fun r μ' => gl D cy X0 nn ad F9 d kc2 ks2 y PQ PX (pc + 3) ls (psh r rest) μ') (fun r μ' h => h) hc ho hP hD hS hl (by omega) (by omega) (a := (Value.ref (ad 6100) :: as.map (av_l ad)).toArray) ?_
  refine vx_runV (As := as.map (av_l ad)) (b := ad 6100) (nL := y.2.2.1) ⟨c1, c2, c4, c5, c6⟩ hM hcw hp rfl (by rw [List.length_map]; exact hn) hl.1 ?_ (lv_room (by rw [av_sum]; exact hW)) hd ⟨by omega, by omega⟩
  simp [List.map_append, List.map_reverse, av_l]
/-- a method of the builder, or of the class above it -/
theorem gl_callO {z' d' kc' ks' kc2 ks2 idx n : Nat} {y' : MI} {as rest : List Value} (hd : decode y.2.1 pc = .ok (.invokevirtual idx, 3)) (hst : st = as.reverse ++ .ref 5000 :: rest) (hlk : Cond.methodLink y.1.cls idx y'.1 ∈ aw) (hm : mok y' n ∧ Cond.instanceMethod y'.1 ∈ aw) (hse : selO y'.1) (hb : 276 ≤ nn)
    (hn : as.length = n) (hl' : n + 1 ≤ y'.2.2.1) (hcat : ∀ v ∈ as, v.category = 1) (hW : (rest.map fun v => v.category).sum ≤ 8) (hz : z' ≤ nn) (hdd : d' + 1 ≤ d) (hk : kc' + kc2 ≤ kc) (hks : ks' + ks2 ≤ ks)
    (K : mt z' d' kc' ks' y' (.ref 5000 :: as) (fun r μ' => gl D cy X0 nn ad F9 d kc2 ks2 y PQ PX (pc + 3) ls (psh r rest) μ') (fun _ _ => False) μ) : gl D cy X0 nn ad F9 d kc ks y PQ PX pc ls st μ := by
  subst hst
  intro p l e R s m args below meth c mc ms hc ho H locs cells slots lsA dv hw hS hl h1 h2
  obtain ⟨c1, c2, c3, c4, c5, c6, c7, c8, c9, c10, c11, c12, c13, c14, c15, c16, c17, c18, c19⟩ := id hc
  obtain ⟨⟨k1, k2, k3, k4, k5, k6, k9⟩, k7⟩ := hm
  have k8 := hse args s c6 c8.2.2.2.2.2.2.2.2.2.2
  obtain ⟨hR, E, hE, hP, hD⟩ := hw
  rw [← List.append_assoc] at hP hD
  have hsub := sub_le hD c15 hS
  have hM := met_quiet (mt_vxS (l := l) (D := D) (cy := cy) (X0 := va_A (wsl cy dv ad μ nn ++ E) H.size) (n := nn) (ad := ad) (dv := dv) K k3 k6 (by simp; omega) (by simpa using ⟨rfl, hcat⟩) c18 (by omega) c10)
  have hcw : CallW R s args y.1.cls RJ4 idx y'.1 y'.2.1 y'.2.2.1 y'.2.2.2.1 (wsa y') (rmd d' kc' ks') kc' ks' n :=
    ⟨callB_of n c6 (good_wsa k1) rfl rfl rfl (c6 _ k2) (c6 _ hlk) k4 ⟨by show d' + 1 ≤ _; omega, by show 8 + (y'.2.2.1 + 11) + 40 * d' ≤ _; omega⟩, c6 _ k7, k8⟩
  obtain ⟨xE, rE, sE, hxE⟩ : ∃ x r fs, E = (ad 5000, .inr (1, fs)) :: r ∧ x = (ad 5000, (.inr (1, fs) : va_E)) := by
    rcases hE with ⟨g, -⟩ | ⟨-, sa, ml, e, -⟩
    · omega
    · exact ⟨_, _, _, e, rfl⟩
  have he : (wsl cy dv ad μ nn ++ E)[(wsl cy dv ad μ nn).length]? = some (ad 5000, .inr (1, sE)) := by rw [hxE.1]; exact ap_mid
  have hp : PreV s H RJ4 (ad 5000) (gPs y' D cy (va_A (wsl cy dv ad μ nn ++ E) H.size) nn ad dv μ (.ref 5000 :: as)) (as.map (av_l ad)) :=
    ⟨gPs_blind, va_recv (q := (RJ4, TJ4, 4)) c8.1 (P_l hP) rfl he, fun U hU hWU => ⟨⟨rfl, by rw [hU]; exact ⟨hR, E, hE, P_l hP, (D_l hD).self⟩, by rw [hU]; exact kx_nar (kx_moved hWU hS c8) hsub, by rw [hU]; exact fun q hq => Or.inr hq⟩, scx_no k9⟩⟩
  refine gl_cont (kc' := kc') (ks' := ks') (kc2 := kc2) (ks2 := ks2) (rest := rest) (Q := fun r μ' => gl D cy X0 nn ad F9 d kc2 ks2 y PQ PX (pc + 3) ls (psh r rest) μ') (fun r μ' h => h) hc ho hP hD hS hl (by omega) (by omega) (a := (Value.ref (ad 5000) :: as.map (av_l ad)).toArray) ?_
  refine vx_runV (As := as.map (av_l ad)) (b := ad 5000) (nL := y.2.2.1) ⟨c1, c2, c4, c5, c6⟩ hM hcw hp rfl (by rw [List.length_map]; exact hn) hl.1 ?_ (lv_room (by rw [av_sum]; exact hW)) hd ⟨by omega, by omega⟩
  simp [List.map_append, List.map_reverse, av_l]
/-- a method x of the class above, on the builder, whose own class has y' in its place; both are given the text -/
theorem gl_callU {z' d' kc' ks' kc2 ks2 idx n m9 : Nat} {x : MethodName} {b9 : ByteArray} {r9 : Option FieldType} {y' : MI} {as rest : List Value} (hd : decode y.2.1 pc = .ok (.invokevirtual idx, 3)) (hst : st = as.reverse ++ .ref 5000 :: rest) (hlk : Cond.methodLink y.1.cls idx x ∈ aw) (hm : mok0 y' n ∧ Cond.instanceMethod y'.1 ∈ aw) (hx5 : x.cls = RJ5) (hsm : Cond.sameMethod x.cls x.cls x.name x.desc ∈ aw) (hix : Cond.instanceMethod x ∈ aw) (hcx : Cond.code x b9 m9 r9 ∈ aw) (hdx : (parseMethodDescriptor x.desc).map (fun d => d.parameters.length) = some n) (hse : Cond.selects RJ4 x y'.1 ∈ aw) (hsc : y'.2.2.2.2.2 = y.2.2.2.2.2) (hb : 276 ≤ nn)
    (hn : as.length = n) (hl' : n + 1 ≤ y'.2.2.1) (hcat : ∀ v ∈ as, v.category = 1) (hW : (rest.map fun v => v.category).sum ≤ 8) (hz : z' ≤ nn) (hdd : d' + 1 ≤ d) (hk : kc' + kc2 ≤ kc) (hks : ks' + ks2 ≤ ks)
    (K : mt z' d' kc' ks' y' (.ref 5000 :: as) (fun r μ' => gl D cy X0 nn ad F9 d kc2 ks2 y PQ PX (pc + 3) ls (psh r rest) μ') (fun _ _ => False) μ) : gl D cy X0 nn ad F9 d kc ks y PQ PX pc ls st μ := by
  subst hst
  intro p l e R s m args below meth c mc ms hc ho H locs cells slots lsA dv hw hS hl h1 h2
  obtain ⟨c1, c2, c3, c4, c5, c6, c7, c8, c9, c10, c11, c12, c13, c14, c15, c16, c17, c18, c19⟩ := id hc
  obtain ⟨⟨k1, k2, k3, k4, k5, k6⟩, k7⟩ := hm
  obtain ⟨hR, E, hE, hP, hD⟩ := hw
  rw [← List.append_assoc] at hP hD
  have hsub := sub_le hD c15 hS
  have hM := met_of (met_quiet (mt_vxS (l := l) (D := D) (cy := cy) (X0 := va_A (wsl cy dv ad μ nn ++ E) H.size) (n := nn) (ad := ad) (dv := dv) K k3 k6 (by simp; omega) (by simpa using ⟨rfl, hcat⟩) c18 (by omega) c10))
  have hcw : va_CU R s args y.1.cls RJ4 x.cls idx x y'.1 y'.2.1 y'.2.2.1 y'.2.2.2.1 (wsa y') (rmd d' kc' ks') kc' ks' n :=
    ⟨⟨rfl, rfl, by show d' + 1 ≤ _; omega, by show 8 + (y'.2.2.1 + 11) + 40 * d' ≤ _; omega, pay_in c6 (good_wsa k1), List.mem_cons_self⟩, c6 _ k1, c6 _ k2, by rw [hx5]; exact ⟨by decide, by decide⟩, fun sig h => by rw [h] at hdx; exact (Option.some.inj hdx).symm, c6 _ hlk, c6 _ hsm, va_Decl.of (c6 _ hix) (c6 _ hcx), c6 _ hse, c6 _ k7⟩
  obtain ⟨xE, rE, sE, hxE⟩ : ∃ x r fs, E = (ad 5000, .inr (1, fs)) :: r ∧ x = (ad 5000, (.inr (1, fs) : va_E)) := by
    rcases hE with ⟨g, -⟩ | ⟨-, sa, ml, e, -⟩
    · omega
    · exact ⟨_, _, _, e, rfl⟩
  have he : (wsl cy dv ad μ nn ++ E)[(wsl cy dv ad μ nn).length]? = some (ad 5000, .inr (1, sE)) := by rw [hxE.1]; exact ap_mid
  have hp : PreV s H RJ4 (ad 5000) (gPs y' D cy (va_A (wsl cy dv ad μ nn ++ E) H.size) nn ad dv μ (.ref 5000 :: as)) (as.map (av_l ad)) :=
    ⟨gPs_blind, va_recv (q := (RJ4, TJ4, 4)) c8.1 (P_l hP) rfl he, fun U hU hWU => ⟨⟨rfl, by rw [hU]; exact ⟨hR, E, hE, P_l hP, (D_l hD).self⟩, by rw [hU]; exact kx_nar (kx_moved hWU hS c8) hsub, by rw [hU]; exact fun q hq => Or.inr hq⟩, scx_nar (scx_mv c19 hsc hU hWU hS) hsub⟩⟩
  have hw9 : wdF D cy nn ad dv μ X0 H F9 := ⟨hR, E, hE, by rw [← List.append_assoc]; exact hP, by rw [← List.append_assoc]; exact hD⟩
  refine gl_backM (kc' := kc') (ks' := ks') (rest := rest.map (av_l ad)) (X2 := va_A (wsl cy dv ad μ nn ++ E) H.size) (PQ' := gQ D cy (va_A (wsl cy dv ad μ nn ++ E) H.size) nn ad (fun r μ' => gl D cy X0 nn ad F9 d kc2 ks2 y PQ PX (pc + 3) ls (psh r rest) μ') (Value.ref (ad 5000) :: as.map (av_l ad)).toArray) ?_ (fun st o t h => h.2) hsub hS (fun H' locs' v st₀ t e1 e2 hq hS' => ?_)
  · refine va_runU (As := as.map (av_l ad)) (b := ad 5000) (nL := y.2.2.1) ⟨c1, c2, c4, c5, c6⟩ hM hcw hp rfl (by rw [List.length_map]; exact hn) hl.1 ?_ (lv_room (by rw [av_sum]; exact hW)) hd ⟨by omega, by omega⟩
    simp [List.map_append, List.map_reverse, av_l]
  · obtain ⟨⟨r, μ', dv', hv, hp', hw⟩, hF⟩ := hq
    have hv' : v = r.map (av_l ad) := by injection hv
    subst hv'
    obtain ⟨hR', E', hE', hP', hD'⟩ := hw
    rw [e2] at hP'
    obtain ⟨z1, z2⟩ := fr_join hP hD hsub (fun q h1 h2 => by rw [← e2, ← e1]; exact hF.2 q (by rw [e1]; exact h1) h2) hP' hD'
    rw [List.append_assoc] at z1 z2
    rw [psh_map]
    exact gl_use hp' hc ho ⟨hR', E', hE', z1, z2⟩ hS' hl (by omega) (by omega)
end CallsT
