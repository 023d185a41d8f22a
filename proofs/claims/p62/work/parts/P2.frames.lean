/-! METHODS over further cells; the builder put aside -/
/-- the end of a method that makes or forgets further cells -/
def cR (D : va_G) (cy : Nat → ClassId) (X0 : Nat → Prop) (nn : Nat) (R : Option Value → (Nat → Nat) → Mem → va_W → Prop) : Array Value → State → Outcome → State → Prop := fun _ st oc t =>
  (∃ (r : Option Value) (ad' : Nat → Nat) (μ' : Mem) (G' : va_W) (dv' : UInt64), oc = .returned (r.map (av_l ad')) ∧ R r ad' μ' G' ∧ wdF D cy nn ad' dv' μ' X0 t.heap G') ∧ va_F X0 st t
def gPF (y : MI) (D : va_G) (cy : Nat → ClassId) (X0 : Nat → Prop) (n : Nat) (ad : Nat → Nat) (dv : UInt64) (μ : Mem) (G9 : va_W) (as : List Value) : Array Value → State → Prop := fun v U =>
  (v = (as.map (av_l ad)).toArray ∧ wdF D cy n ad dv μ X0 U.heap G9 ∧ kx D cy X0 ad U U.heap ∧ AX X0 U.heap) ∧ scx y X0 ad U ∧ ao U
theorem gPF_blind {y : MI} {D : va_G} {cy : Nat → ClassId} {X0 : Nat → Prop} {n : Nat} {ad : Nat → Nat} {dv : UInt64} {μ : Mem} {G9 : va_W} {as : List Value} : FrameBlind (gPF y D cy X0 n ad dv μ G9 as) := by
  intro a U g mk h
  obtain ⟨⟨h1, h2, h3, h4⟩, h5, h6⟩ := h
  exact ⟨⟨h1, h2, kx_calling h3, h4⟩, scx_mv (U := U.calling g mk a) (H := U.heap) (locs := []) h5 rfl rfl (State.WarmedH.refl U) va_S.rf, ao_moved (u := U) (U := U.calling g mk a) (Vm.Alike.refl U.vm) h6⟩
theorem gl_metF {D : va_G} {cy : Nat → ClassId} {X0 : Nat → Prop} {nn : Nat} {ad : Nat → Nat} {dv : UInt64} {μ : Mem} {G9 : va_W} {y : MI} {as : List Value} {d kc ks : Nat} {PQ : Array Value → State → Outcome → State → Prop} (K : gl D cy X0 nn ad G9 d kc ks y PQ noX 0 (els y as) [] μ) (hn : nn ≤ 400) (hp : plainName y.1.cls = true) (hh : y.2.2.2.2.1 = []) (hl : as.length ≤ y.2.2.1) (hc : ∀ v ∈ as, v.category = 1)
    {l : Launch} (hst : l.stackTraces = false) : Met l y.1 (wsa y) (rmd d kc ks) (gPF y D cy X0 nn ad dv μ G9 as) PQ kc ks X0 := by
  refine met_of (vx_ofW (cc := y.2.1) (maxL := y.2.2.1) (ret := y.2.2.2.1) hp rfl ?_)
  intro p e s m args below meth c s₁ B hml htb hv
  obtain ⟨⟨rfl, hw, hk, hX⟩, hsc, ho⟩ := hv
  have ht : c.exceptionTable.toList = tableOf y.2.2.2.2.1 := by
    rw [hh]
    cases hx : c.exceptionTable.toList with
    | nil => rfl
    | cons a r => exact (htb a (by rw [hx]; exact List.mem_cons_self)).elim
  rw [lg_entry_eq]
  exact gl_use K (l := l) (R := (headSpec (wsa y) (rmd d kc ks)).room) ⟨B.exec, B.bytes, B.returns, hml, findClass_of_methodNamed B.named, fun w hw => atoms_spec (ws := wsa y) B.pre w (List.mem_cons_of_mem _ hw), B.notSynchronized, hk, Nat.le_refl _, hn, Nat.le_refl d, Nat.le_refl (40 * d), Nat.le_refl kc, Nat.le_refl ks, hX, ht, (name_of_methodNamed B.named B.method).1, hst, hsc⟩
    ho hw va_S.rf (lh_entry hl hc) (by omega) (by omega)
/-- y isn't given a text -/
def nTx (y : MI) : Prop := ∀ L xs, y.2.2.2.2.2 ≠ some (true, L, xs)
theorem cx_ad2 {z d : Nat} {y : MI} {p : Program} {l : Launch} {R : Room} {s : State} {m : MethodId} {args : Array Value} {meth : Method} {c : Code} {D : va_G} {cy : Nat → ClassId} {X0 : Nat → Prop} {mc ms n : Nat} {ad ad' : Nat → Nat} (h : cx z d y p l R s m args meth c D cy X0 mc ms n ad) (e6 : ad' 6000 = ad 6000) (e61 : nTx y ∨ (ad' 6100 = ad 6100 ∧ ad' 6101 = ad 6101)) (e7 : ∀ k, 7000 ≤ k → ad' k = ad k) : cx z d y p l R s m args meth c D cy X0 mc ms n ad' := by
  obtain ⟨c1, c2, c3, c4, c5, c6, c7, c8, c9, c10, c11, c12, c13, c14, c15, c16, c17, c18, c19⟩ := h
  refine ⟨c1, c2, c3, c4, c5, c6, c7, ⟨c8.1, stb_ad c8.2 e7⟩, c9, c10, c11, c12, c13, c14, c15, c16, c17, c18, fun L xs => ⟨fun e => ?_, fun e => ?_⟩⟩
  · rw [e6]; exact (c19 L xs).1 e
  · rcases e61 with g | ⟨g1, g2⟩
    · exact absurd e (g L xs)
    · rw [g1, g2]; exact (c19 L xs).2 e
section Frames
variable {D : va_G} {cy : Nat → ClassId} {X0 : Nat → Prop} {nn : Nat} {ad : Nat → Nat} {F9 : va_W} {d kc ks : Nat} {y : MI} {PQ : Array Value → State → Outcome → State → Prop} {PX : String → State → State → Prop} {pc : Nat} {ls st : List Value} {μ : Mem}
/-- the end: where the answer, the numbers, the memory and the further cells are R -/
theorem gl_areturnR {a : Nat} {rt : FieldType} {R : Option Value → (Nat → Nat) → Mem → va_W → Prop} (hd : decode y.2.1 pc = .ok (.areturn, 1)) (hr : y.2.2.2.1 = some rt) (hn : (∃ n, rt = .object n) ∨ ∃ t, rt = .array t) (K : R (some (.ref a)) ad μ F9) : gl D cy X0 nn ad F9 d kc ks y (cR D cy X0 nn R) PX pc ls [.ref a] μ := by
  intro p l e R s m args below meth c mc ms hc ho H locs cells slots lsA dv hw hS hl h1 h2
  obtain ⟨c1, c2, c3, c4, c5, c6, c7, c8, c9, c10, c11⟩ := hc
  refine W.widen (k := mc) (n := ms) (by omega) (by omega) (vx_ret ?_)
  exact W.aret (v := .ref (ad a)) c1 c2 (c3.trans hr) hn (Or.inr ⟨_, rfl⟩) (fun t ht hW => ⟨⟨some (.ref a), ad, μ, F9, dv, rfl, K, by rw [ht]; exact hw⟩, hS.F ht⟩) hS.2.2 hd c7
theorem gl_returnR {R : Option Value → (Nat → Nat) → Mem → va_W → Prop} (hd : decode y.2.1 pc = .ok (.return_, 1)) (hr : y.2.2.2.1 = none) (K : R none ad μ F9) : gl D cy X0 nn ad F9 d kc ks y (cR D cy X0 nn R) PX pc ls [] μ := by
  intro p l e R s m args below meth c mc ms hc ho H locs cells slots lsA dv hw hS hl h1 h2
  obtain ⟨c1, c2, c3, c4, c5, c6, c7, c8, c9, c10, c11⟩ := hc
  refine W.widen (k := mc) (n := ms) (by omega) (by omega) (vx_ret ?_)
  exact W.vret c1 c2 (c3.trans hr) (fun t ht hW => ⟨⟨none, ad, μ, F9, dv, rfl, K, by rw [ht]; exact hw⟩, hS.F ht⟩) hS.2.2 hd c7
theorem gl_zreturnR {v : Int} {R : Option Value → (Nat → Nat) → Mem → va_W → Prop} (hd : decode y.2.1 pc = .ok (.ireturn, 1)) (hr : y.2.2.2.1 = some .boolean) (hv : v = 0 ∨ v = 1) (K : R (some (.int (iI v))) ad μ F9) : gl D cy X0 nn ad F9 d kc ks y (cR D cy X0 nn R) PX pc ls [.int (iI v)] μ := by
  intro p l e R s m args below meth c mc ms hc ho H locs cells slots lsA dv hw hS hl h1 h2
  obtain ⟨c1, c2, c3, c4, c5, c6, c7, c8, c9, c10, c11⟩ := hc
  refine W.widen (k := mc) (n := ms) (by omega) (by omega) (vx_ret ?_)
  exact W.zret (v := iI v) c1 c2 (c3.trans hr) (nar_b hv).1 (fun t ht hW => ⟨⟨some (.int (iI v)), ad, μ, F9, dv, rfl, K, by rw [ht]; exact hw⟩, hS.F ht⟩) hS.2.2 hd c7
/-- behind a call of a method over further cells -/
theorem gl_contR {G9 Fr : va_W} {R9 : Option Value → (Nat → Nat) → Mem → va_W → Prop} {rest : List Value} {kc' ks' kc2 ks2 : Nat}
    (hK : ∀ r ad' μ' G', R9 r ad' μ' G' → (ad' 6000 = ad 6000 ∧ (nTx y ∨ (ad' 6100 = ad 6100 ∧ ad' 6101 = ad 6101)) ∧ ∀ k, 7000 ≤ k → ad' k = ad k) ∧ ls.map (av_l ad') = ls.map (av_l ad) ∧ rest.map (av_l ad') = rest.map (av_l ad) ∧ gl D cy X0 nn ad' (G' ++ Fr) d kc2 ks2 y PQ PX (pc + 3) ls (psh r rest) μ') {p : Program} {l : Launch} {e : Env} {R : Room} {s : State} {m : MethodId} {args : Array Value} {below : List Frame} {meth : Method} {c : Code} {mc ms : Nat}
    (hc : cx nn d y p l R s m args meth c D cy X0 mc ms nn ad) (ho : ao s) {H : Heap} {locs : List Loc} {cells slots : Nat} {lsA : Array Slot} {dv : UInt64} {E : va_W} (hP : va_P D vwCl ((wsl cy dv ad μ nn ++ (E ++ G9)) ++ Fr) H) (hD : va_D X0 ((wsl cy dv ad μ nn ++ (E ++ G9)) ++ Fr)) (hS : va_S X0 s.heap H locs) (hl : lh ad lsA y.2.2.1 ls) (h1 : cells + kc' + kc2 ≤ mc) (h2 : slots + ks' + ks2 ≤ ms) {a : Array Value} {st0 : List Value}
    (hrun : va_Run p l e R s m args below meth c H locs cells slots kc' ks' (F0 m pc lsA st0) (rest.map (av_l ad)) (cR D cy (va_A (wsl cy dv ad μ nn ++ (E ++ G9)) H.size) nn R9 a) (va_A (wsl cy dv ad μ nn ++ (E ++ G9)) H.size)) :
    W p l e R s m args below meth c H locs cells slots (vx_MQ below PQ PX args s mc ms X0) (F0 m pc lsA st0) := by
  have hsub := sub_le hD hc.2.2.2.2.2.2.2.2.2.2.2.2.2.2.1 hS
  refine gl_backM hrun (fun st o t h => h.2) hsub hS (fun H' locs' v st₀ t e1 e2 hq hS' => ?_)
  obtain ⟨⟨r, ad', μ', G', dv', hv, hr, hw⟩, hF⟩ := hq
  have hv' : v = r.map (av_l ad') := by injection hv
  subst hv'
  obtain ⟨⟨k0, k1, k2⟩, k3, k4, K⟩ := hK r ad' μ' G' hr
  obtain ⟨hR', E', hE', hP', hD'⟩ := hw
  rw [e2] at hP'
  obtain ⟨z1, z2⟩ := fr_join hP hD hsub (fun q h1 h2 => by rw [← e2, ← e1]; exact hF.2 q (by rw [e1]; exact h1) h2) hP' hD'
  rw [List.append_assoc, List.append_assoc] at z1 z2
  rw [← k4, psh_map]
  exact gl_use K (cx_ad2 hc k0 k1 k2) ho ⟨hR', E', hE', z1, z2⟩ hS' (lh_map hl k3) (by omega) (by omega)
/-- what such a method finds -/
theorem gPF_of {ad2 : Nat → Nat} {y' : MI} {as' : List Value} {G9 Fr : va_W} {p : Program} {l : Launch} {R : Room} {s : State} {m : MethodId} {args : Array Value} {meth : Method} {c : Code} {mc ms : Nat} (hc : cx nn d y p l R s m args meth c D cy X0 mc ms nn ad) (ho : ao s) {H : Heap} {locs : List Loc} {dv : UInt64} {E : va_W} (hR : ∀ a i, rng (μ a i)) (hE : sbx cy ad μ nn E)
    (hP : va_P D vwCl ((wsl cy dv ad μ nn ++ (E ++ G9)) ++ Fr) H) (hD : va_D X0 ((wsl cy dv ad μ nn ++ (E ++ G9)) ++ Fr)) (hS : va_S X0 s.heap H locs) (hnn : nn ≤ 293) (e2 : ∀ k, k < 6000 ∨ 7000 ≤ k → ad2 k = ad k)
    (hsx : y'.2.2.2.2.2 = none ∨ (y'.2.2.2.2.2 = y.2.2.2.2.2 ∧ ad2 = ad) ∨ ∃ L xs, y'.2.2.2.2.2 = some (true, L, xs) ∧ tav cy ad Fr (ad2 6100) (ad2 6101) L xs) {v : Array Value} (hv : v = (as'.map (av_l ad2)).toArray) :
    ∀ U : State, U.heap = H → s.WarmedH U.vm → gPF y' D cy (va_A (wsl cy dv ad μ nn ++ (E ++ G9)) H.size) nn ad2 dv μ G9 as' v U := by
  intro U hU hWU
  obtain ⟨c1, c2, c3, c4, c5, c6, c7, c8, c9, c10, c11, c12, c13, c14, c15, c16, c17, c18, c19⟩ := id hc
  have hsub := sub_le hD c15 hS
  have ew : wsl cy dv ad2 μ nn = wsl cy dv ad μ nn := wsl_adf hnn (fun k hk => e2 k (by omega))
  refine ⟨⟨hv, by rw [hU]; exact ⟨hR, E, sbx_ad hE (e2 5000 (by decide)) (e2 5001 (by decide)), by rw [ew]; exact P_l hP, by rw [ew]; exact (D_l hD).self⟩, ?_, by rw [hU]; exact fun q hq => Or.inr hq⟩, ?_, ao_moved hWU.alike ho⟩
  · rw [hU]
    have hx := kx_nar (kx_moved hWU hS c8) hsub
    exact ⟨hx.1, stb_ad hx.2 (fun k hk => e2 k (by omega))⟩
  · rcases hsx with h | ⟨h, e⟩ | ⟨L, xs, h, ht⟩
    · exact scx_no h
    · rw [e]
      exact scx_nar (scx_mv c19 h hU hWU hS) hsub
    · have htt := tav_txt ht c6 (kx_nar (kx_moved (State.WarmedH.refl s) hS c8) hsub) (P_r hP) (fr_apart hP hD)
      refine fun L' xs' => ⟨fun e => (by rw [h] at e; cases e), fun e => ?_⟩
      rw [h] at e
      cases e
      rw [hU]
      exact ⟨ht.1, txt_mv htt hWU.alike⟩
theorem gl_callGS {ad2 : Nat → Nat} {d' kc' ks' kc2 ks2 idx n : Nat} {y' : MI} {as as' rest : List Value} {G9 Fr : va_W} {R9 : Option Value → (Nat → Nat) → Mem → va_W → Prop} (hd : decode y.2.1 pc = .ok (.invokestatic idx, 3)) (hst : st = as.reverse ++ rest) (hF : F9 = G9 ++ Fr) (hlk : Cond.methodLink y.1.cls idx y'.1 ∈ aw) (hm : mok0 y' n ∧ Cond.static y'.1 ∈ aw) (hnn : nn ≤ 293) (e2 : ∀ k, k < 6000 ∨ 7000 ≤ k → ad2 k = ad k)
    (hsx : y'.2.2.2.2.2 = none ∨ (y'.2.2.2.2.2 = y.2.2.2.2.2 ∧ ad2 = ad) ∨ ∃ L xs, y'.2.2.2.2.2 = some (true, L, xs) ∧ tav cy ad Fr (ad2 6100) (ad2 6101) L xs) (has : as'.map (av_l ad2) = as.map (av_l ad))
    (hn : as'.length = n) (hl' : n ≤ y'.2.2.1) (hcat : ∀ v ∈ as', v.category = 1) (hW : (rest.map fun v => v.category).sum ≤ 8) (hdd : d' + 1 ≤ d) (hk : kc' + kc2 ≤ kc) (hks : ks' + ks2 ≤ ks)
    (hb : ∀ X1 : Nat → Prop, gl D cy X1 nn ad2 G9 d' kc' ks' y' (cR D cy X1 nn R9) noX 0 (els y' as') [] μ)
    (hK : ∀ r ad' μ' G', R9 r ad' μ' G' → (ad' 6000 = ad 6000 ∧ (nTx y ∨ (ad' 6100 = ad 6100 ∧ ad' 6101 = ad 6101)) ∧ ∀ k, 7000 ≤ k → ad' k = ad k) ∧ ls.map (av_l ad') = ls.map (av_l ad) ∧ rest.map (av_l ad') = rest.map (av_l ad) ∧ gl D cy X0 nn ad' (G' ++ Fr) d kc2 ks2 y PQ PX (pc + 3) ls (psh r rest) μ') : gl D cy X0 nn ad F9 d kc ks y PQ PX pc ls st μ := by
  subst hst hF
  intro p l e R s m args below meth c mc ms hc ho H locs cells slots lsA dv hw hS hl h1 h2
  obtain ⟨c1, c2, c3, c4, c5, c6, c7, c8, c9, c10, c11, c12, c13, c14, c15, c16, c17, c18, c19⟩ := id hc
  obtain ⟨⟨k1, k2, k3, k4, k5, k6⟩, k7⟩ := hm
  obtain ⟨hR, E, hE, hP, hD⟩ := hw
  have ea : wsl cy dv ad μ nn ++ (E ++ (G9 ++ Fr)) = (wsl cy dv ad μ nn ++ (E ++ G9)) ++ Fr := by rw [List.append_assoc, List.append_assoc]
  rw [ea] at hP hD
  have hM := gl_metF (l := l) (dv := dv) (hb (va_A (wsl cy dv ad μ nn ++ (E ++ G9)) H.size)) c10 k3 k6 (by omega) hcat c18
  have hcw : CallB R s args y.1.cls idx y'.1 y'.2.1 y'.2.2.1 y'.2.2.2.1 (wsa y') (rmd d' kc' ks') kc' ks' n ∧ (Cond.static y'.1).before args s = true :=
    ⟨callB_of n c6 (good_wsa k1) rfl rfl rfl (c6 _ k2) (c6 _ hlk) k4 ⟨by show d' + 1 ≤ _; omega, by show 8 + (y'.2.2.1 + 11) + 40 * d' ≤ _; omega⟩, c6 _ k7⟩
  refine gl_contR (kc' := kc') (ks' := ks') (kc2 := kc2) (ks2 := ks2) (rest := rest) hK hc ho hP hD hS hl (by omega) (by omega) (a := (as'.map (av_l ad2)).toArray) ?_
  refine va_runS (As := as'.map (av_l ad2)) (nL := y.2.2.1) ⟨c1, c2, c4, c5, c6⟩ hM hcw ⟨gPF_blind, gPF_of hc ho hR hE hP hD hS hnn e2 hsx rfl⟩ rfl (by rw [List.length_map]; exact hn) hl.1 ?_ (lv_room (by rw [av_sum]; exact hW)) hd ⟨by omega, by omega⟩
  rw [has]
  simp [List.map_append, List.map_reverse]
theorem gl_callGI {ad2 : Nat → Nat} {d' kc' ks' kc2 ks2 b b' idx n : Nat} {y' : MI} {as as' rest : List Value} {G9 Fr : va_W} {R9 : Option Value → (Nat → Nat) → Mem → va_W → Prop} (hd : decode y.2.1 pc = .ok (.invokespecial idx, 3)) (hst : st = as.reverse ++ .ref b :: rest) (hF : F9 = G9 ++ Fr) (hlk : Cond.methodLink y.1.cls idx y'.1 ∈ aw) (hm : mok0 y' n ∧ Cond.instanceMethod y'.1 ∈ aw) (hnm : y'.1.name = "<init>") (hr : y'.2.2.2.1 = none) (hnn : nn ≤ 293) (e2 : ∀ k, k < 6000 ∨ 7000 ≤ k → ad2 k = ad k)
    (hsx : y'.2.2.2.2.2 = none ∨ (y'.2.2.2.2.2 = y.2.2.2.2.2 ∧ ad2 = ad) ∨ ∃ L xs, y'.2.2.2.2.2 = some (true, L, xs) ∧ tav cy ad Fr (ad2 6100) (ad2 6101) L xs) (has : as'.map (av_l ad2) = as.map (av_l ad)) (hbb : ad2 b' = ad b)
    (hn : as'.length = n) (hl' : n + 1 ≤ y'.2.2.1) (hcat : ∀ v ∈ as', v.category = 1) (hW : (rest.map fun v => v.category).sum ≤ 8) (hdd : d' + 1 ≤ d) (hk : kc' + kc2 ≤ kc) (hks : ks' + ks2 ≤ ks)
    (hb : ∀ X1 : Nat → Prop, gl D cy X1 nn ad2 G9 d' kc' ks' y' (cR D cy X1 nn R9) noX 0 (els y' (.ref b' :: as')) [] μ)
    (hK : ∀ r ad' μ' G', R9 r ad' μ' G' → (ad' 6000 = ad 6000 ∧ (nTx y ∨ (ad' 6100 = ad 6100 ∧ ad' 6101 = ad 6101)) ∧ ∀ k, 7000 ≤ k → ad' k = ad k) ∧ ls.map (av_l ad') = ls.map (av_l ad) ∧ rest.map (av_l ad') = rest.map (av_l ad) ∧ gl D cy X0 nn ad' (G' ++ Fr) d kc2 ks2 y PQ PX (pc + 3) ls (psh r rest) μ') : gl D cy X0 nn ad F9 d kc ks y PQ PX pc ls st μ := by
  subst hst hF
  intro p l e R s m args below meth c mc ms hc ho H locs cells slots lsA dv hw hS hl h1 h2
  obtain ⟨c1, c2, c3, c4, c5, c6, c7, c8, c9, c10, c11, c12, c13, c14, c15, c16, c17, c18, c19⟩ := id hc
  obtain ⟨⟨k1, k2, k3, k4, k5, k6⟩, k7⟩ := hm
  obtain ⟨hR, E, hE, hP, hD⟩ := hw
  have ea : wsl cy dv ad μ nn ++ (E ++ (G9 ++ Fr)) = (wsl cy dv ad μ nn ++ (E ++ G9)) ++ Fr := by rw [List.append_assoc, List.append_assoc]
  rw [ea] at hP hD
  have hM := gl_metF (l := l) (dv := dv) (hb (va_A (wsl cy dv ad μ nn ++ (E ++ G9)) H.size)) c10 k3 k6 (by simp; omega) (by simpa using ⟨rfl, hcat⟩) c18
  have hcw : CallB R s args y.1.cls idx y'.1 y'.2.1 y'.2.2.1 y'.2.2.2.1 (wsa y') (rmd d' kc' ks') kc' ks' n :=
    callB_of n c6 (good_wsa k1) rfl rfl rfl (c6 _ k2) (c6 _ hlk) k4 ⟨by show d' + 1 ≤ _; omega, by show 8 + (y'.2.2.1 + 11) + 40 * d' ≤ _; omega⟩
  rw [hr] at hcw
  refine gl_contR (kc' := kc') (ks' := ks') (kc2 := kc2) (ks2 := ks2) (rest := rest) hK hc ho hP hD hS hl (by omega) (by omega) (a := (Value.ref (ad2 b') :: as'.map (av_l ad2)).toArray) ?_
  refine va_runI (As := as'.map (av_l ad2)) (b := ad2 b') (nL := y.2.2.1) ⟨c1, c2, c4, c5, c6⟩ hM ⟨hcw, hnm, c6 _ k7⟩ ⟨gPF_blind, gPF_of hc ho hR hE hP hD hS hnn e2 hsx rfl⟩ rfl (by rw [List.length_map]; exact hn) hl.1 ?_ (lv_room (by rw [av_sum]; exact hW)) hd ⟨by omega, by omega⟩
  rw [has, hbb]
  simp [List.map_append, List.map_reverse, av_l]
theorem gl_callGV {d' kc' ks' kc2 ks2 idx n : Nat} {y' : MI} {as rest : List Value} {G9 Fr : va_W} {R9 : Option Value → (Nat → Nat) → Mem → va_W → Prop} (hd : decode y.2.1 pc = .ok (.invokevirtual idx, 3)) (hst : st = as.reverse ++ .ref 5000 :: rest) (hF : F9 = G9 ++ Fr) (hlk : Cond.methodLink y.1.cls idx y'.1 ∈ aw) (hm : mok y' n ∧ Cond.instanceMethod y'.1 ∈ aw) (hse : selO y'.1) (hnn : 276 ≤ nn ∧ nn ≤ 293)
    (hn : as.length = n) (hl' : n + 1 ≤ y'.2.2.1) (hcat : ∀ v ∈ as, v.category = 1) (hW : (rest.map fun v => v.category).sum ≤ 8) (hdd : d' + 1 ≤ d) (hk : kc' + kc2 ≤ kc) (hks : ks' + ks2 ≤ ks)
    (hb : ∀ X1 : Nat → Prop, gl D cy X1 nn ad G9 d' kc' ks' y' (cR D cy X1 nn R9) noX 0 (els y' (.ref 5000 :: as)) [] μ)
    (hK : ∀ r ad' μ' G', R9 r ad' μ' G' → (ad' 6000 = ad 6000 ∧ (nTx y ∨ (ad' 6100 = ad 6100 ∧ ad' 6101 = ad 6101)) ∧ ∀ k, 7000 ≤ k → ad' k = ad k) ∧ ls.map (av_l ad') = ls.map (av_l ad) ∧ rest.map (av_l ad') = rest.map (av_l ad) ∧ gl D cy X0 nn ad' (G' ++ Fr) d kc2 ks2 y PQ PX (pc + 3) ls (psh r rest) μ') : gl D cy X0 nn ad F9 d kc ks y PQ PX pc ls st μ := by
  subst hst hF
  intro p l e R s m args below meth c mc ms hc ho H locs cells slots lsA dv hw hS hl h1 h2
  obtain ⟨c1, c2, c3, c4, c5, c6, c7, c8, c9, c10, c11, c12, c13, c14, c15, c16, c17, c18, c19⟩ := id hc
  obtain ⟨⟨k1, k2, k3, k4, k5, k6, k9⟩, k7⟩ := hm
  have k8 := hse args s c6 c8.2.2.2.2.2.2.2.2.2.2
  obtain ⟨hR, E, hE, hP, hD⟩ := hw
  have ea : wsl cy dv ad μ nn ++ (E ++ (G9 ++ Fr)) = (wsl cy dv ad μ nn ++ (E ++ G9)) ++ Fr := by rw [List.append_assoc, List.append_assoc]
  rw [ea] at hP hD
  have hM := gl_metF (l := l) (dv := dv) (hb (va_A (wsl cy dv ad μ nn ++ (E ++ G9)) H.size)) c10 k3 k6 (by simp; omega) (by simpa using ⟨rfl, hcat⟩) c18
  have hcw : CallW R s args y.1.cls RJ4 idx y'.1 y'.2.1 y'.2.2.1 y'.2.2.2.1 (wsa y') (rmd d' kc' ks') kc' ks' n :=
    ⟨callB_of n c6 (good_wsa k1) rfl rfl rfl (c6 _ k2) (c6 _ hlk) k4 ⟨by show d' + 1 ≤ _; omega, by show 8 + (y'.2.2.1 + 11) + 40 * d' ≤ _; omega⟩, c6 _ k7, k8⟩
  obtain ⟨xE, rE, sE, hxE⟩ : ∃ x r fs, E = (ad 5000, .inr (1, fs)) :: r ∧ x = (ad 5000, (.inr (1, fs) : va_E)) := by
    rcases hE with ⟨g, -⟩ | ⟨-, sa, ml, e, -⟩
    · omega
    · exact ⟨_, _, _, e, rfl⟩
  have he : (wsl cy dv ad μ nn ++ (E ++ G9))[(wsl cy dv ad μ nn).length]? = some (ad 5000, .inr (1, sE)) := by rw [hxE.1]; exact ap_mid
  refine gl_contR (kc' := kc') (ks' := ks') (kc2 := kc2) (ks2 := ks2) (rest := rest) hK hc ho hP hD hS hl (by omega) (by omega) (a := (Value.ref (ad 5000) :: as.map (av_l ad)).toArray) ?_
  refine va_runV (As := as.map (av_l ad)) (b := ad 5000) (nL := y.2.2.1) ⟨c1, c2, c4, c5, c6⟩ hM hcw ⟨gPF_blind, va_recv (q := (RJ4, TJ4, 4)) c8.1 (P_l hP) rfl he, gPF_of hc ho hR hE hP hD hS hnn.2 (fun k hk => rfl) (Or.inl k9) rfl⟩ rfl (by rw [List.length_map]; exact hn) hl.1 ?_ (lv_room (by rw [av_sum]; exact hW)) hd ⟨by omega, by omega⟩
  simp [List.map_append, List.map_reverse, av_l]
/-! another builder in the place of the one that counts -/
abbrev bC (a sa : Nat) (ml : Int32) (n : Int) : Nat × va_E := (a, .inr (1, [.ref sa, .int 0, .int ml, .int (iI n)]))
abbrev bR (cy : Nat → ClassId) (sa cap : Nat) (f : Nat → Int) : Nat × va_E := (sa, .inl (cy 2, cap, .inl (fun j => iI (f j))))
def smb (μ : Mem) (n cap : Int) (f : Nat → Int) : Mem := fun b j => if b = 5000 ∧ j = 0 then n else if b = 5002 ∧ j = 0 then cap else if b = 5003 ∧ j = 0 then 0 else if b = 5001 then f j else μ b j
theorem smb_o {n cap : Int} {f : Nat → Int} {b j : Nat} (h : b < 5000) : smb μ n cap f b j = μ b j := by
  unfold smb
  rw [if_neg (by omega), if_neg (by omega), if_neg (by omega), if_neg (by omega)]
theorem smb_0 {n cap : Int} {f : Nat → Int} : smb μ n cap f 5000 0 = n := if_pos ⟨rfl, rfl⟩
theorem smb_2 {n cap : Int} {f : Nat → Int} : smb μ n cap f 5002 0 = cap := by
  unfold smb
  rw [if_neg (by decide), if_pos ⟨rfl, rfl⟩]
theorem smb_3 {n cap : Int} {f : Nat → Int} : smb μ n cap f 5003 0 = 0 := by
  unfold smb
  rw [if_neg (by decide), if_neg (by decide), if_pos ⟨rfl, rfl⟩]
theorem smb_1 {n cap : Int} {f : Nat → Int} {j : Nat} : smb μ n cap f 5001 j = f j := by
  unfold smb
  rw [if_neg (fun w => absurd w.1 (by decide)), if_neg (fun w => absurd w.1 (by decide)), if_neg (fun w => absurd w.1 (by decide)), if_pos rfl]
theorem gl_swap {ad' : Nat → Nat} {b sa : Nat} {ml : Int32} {n cap : Int} {f : Nat → Int} {ls' st' : List Value} {F3 : va_W → va_W} (hnn : 276 ≤ nn ∧ nn ≤ 293) (e6 : ∀ k, k < 293 ∨ k = 5005 ∨ 6000 ≤ k → ad' k = ad k) (eb : ad' 5000 = b) (hls : ls'.map (av_l ad') = ls.map (av_l ad)) (hst : st'.map (av_l ad') = st.map (av_l ad))
    (hn : 0 ≤ n ∧ n ≤ cap) (hcap : cap = 16 ∨ cap = 22 ∨ cap = 46 ∨ cap = 94 ∨ cap = 190 ∨ cap = 382) (hf : ∀ j, -128 ≤ f j ∧ f j < 128)
    (hp : ∀ E : va_W, ∃ G : va_W, (E ++ F9).Perm ((bC b sa ml n :: bR cy sa cap.toNat f :: F3 E) ++ G))
    (K : ∀ E, sbx cy ad μ nn E → gl D cy X0 nn ad' (F3 E) d kc ks y PQ PX pc ls' st' (smb μ n cap f)) : gl D cy X0 nn ad F9 d kc ks y PQ PX pc ls st μ := by
  intro p l e R s m args below meth c mc ms hc ho H locs cells slots lsA dv hw hS hl h1 h2
  obtain ⟨hR, E, hE, hP, hD⟩ := hw
  obtain ⟨G, hp⟩ := hp E
  have hc1 := cx_ad (ad' := ad') hc ⟨e6 _ (by decide), e6 _ (by decide), e6 _ (by decide)⟩ (fun k hk => e6 k (by omega))
  have ew : wsl cy dv ad' (smb μ n cap f) nn = wsl cy dv ad μ nn := (wsl_off (μ := μ) (μ' := smb μ n cap f) (fun b j hb => smb_o (by omega))).trans (wsl_adf hnn.2 (fun k hk => e6 k (by omega)))
  have hq : (wsl cy dv ad μ nn ++ (E ++ F9)).Perm ((wsl cy dv ad μ nn ++ ([bC b sa ml n, bR cy sa cap.toNat f] ++ F3 E)) ++ G) := by
    rw [List.append_assoc]
    exact List.Perm.append_left _ hp
  have hE2 : sbx cy ad' (smb μ n cap f) nn [bC b sa ml n, bR cy sa cap.toNat f] := by
    refine Or.inr ⟨hnn.1, sa, ml, ?_, fun w => absurd smb_3 w, by rw [smb_0, smb_2]; exact hn, by rw [smb_2]; exact hcap, fun j => by rw [smb_1]; exact hf j⟩
    rw [eb, smb_0, smb_2, show (fun j => iI (smb μ n cap f 5001 j)) = fun j => iI (f j) from funext (fun j => by rw [smb_1])]
  have h := gl_use (K E hE) hc1 ho (dv := dv) (H := H) ⟨fun a i => ?_, [bC b sa ml n, bR cy sa cap.toNat f], hE2, by rw [ew]; exact P_l (va_P_perm hq hP), by rw [ew]; exact D_l (va_D_perm hq hD)⟩ hS (lh_map hl hls) h1 h2 (e := e) (below := below)
  · rw [hst] at h
    exact h
  · unfold smb rng
    have := hR a i
    unfold rng at this
    have := hf i
    (repeat' split) <;> omega
/-- from a mode to the other -/
theorem gl_sbin (hnn : 276 ≤ nn ∧ nn ≤ 293) (hl5 : nob ls) (hs5 : nob st) (K : ∀ sa, gl D cy X0 nn (ad5 ad sa) F9 d kc ks y PQ PX pc ls st (wr μ 5003 0 1)) : gl D cy X0 nn ad F9 d kc ks y PQ PX pc ls st μ := by
  intro p l e R s m args below meth c mc ms hc ho H locs cells slots lsA dv hw hS hl h1 h2
  obtain ⟨hR, E, hE, hP, hD⟩ := hw
  rcases hE with ⟨g, -⟩ | ⟨-, sa, ml, e9, a1, a2, a3, a4⟩
  · omega
  have ew : wsl cy dv (ad5 ad sa) (wr μ 5003 0 1) nn = wsl cy dv ad μ nn := (wsl_5 (by omega)).trans (wsl_off (fun b j hb => (wr_na (by omega)).symm)).symm
  have hE2 : sbx cy (ad5 ad sa) (wr μ 5003 0 1) nn E := by
    refine Or.inr ⟨hnn.1, sa, ml, ?_, fun _ => ad5_s.symm, by rw [wr_na (by decide), wr_na (by decide)]; exact a2, by rw [wr_na (by decide)]; exact a3, fun j => by rw [wr_na (by decide)]; exact a4 j⟩
    rw [ad5_n (by decide), wr_na (by decide), wr_na (by decide), show (fun j => iI (wr μ 5003 0 1 5001 j)) = fun j => iI (μ 5001 j) from funext (fun j => by rw [wr_na (by decide)])]
    exact e9
  have h := gl_use (K sa) (cx_5 hc) ho (dv := dv) (H := H) ⟨wr_rng hR (by decide), E, hE2, by rw [ew]; exact hP, by rw [ew]; exact hD⟩ hS (lh_5 hl hl5) h1 h2 (e := e) (below := below)
  rw [map_5 hs5] at h
  exact h
theorem gl_sbout (hnn : nn ≤ 293) (K : gl D cy X0 nn ad F9 d kc ks y PQ PX pc ls st (wr μ 5003 0 0)) : gl D cy X0 nn ad F9 d kc ks y PQ PX pc ls st μ := by
  intro p l e R s m args below meth c mc ms hc ho H locs cells slots lsA dv hw hS hl h1 h2
  obtain ⟨hR, E, hE, hP, hD⟩ := hw
  have ew : wsl cy dv ad (wr μ 5003 0 0) nn = wsl cy dv ad μ nn := (wsl_off (fun b j hb => (wr_na (by omega)).symm)).symm
  refine gl_use K hc ho (dv := dv) ⟨wr_rng hR rng0, E, ?_, by rw [ew]; exact hP, by rw [ew]; exact hD⟩ hS hl h1 h2
  rcases hE with g | ⟨g, sa, ml, e9, a1, a2, a3, a4⟩
  · exact Or.inl g
  · refine Or.inr ⟨g, sa, ml, ?_, fun w => absurd (wr_s _ _ _ _) w, by rw [wr_na (by decide), wr_na (by decide)]; exact a2, by rw [wr_na (by decide)]; exact a3, fun j => by rw [wr_na (by decide)]; exact a4 j⟩
    rw [wr_na (by decide), wr_na (by decide), show (fun j => iI (wr μ 5003 0 0 5001 j)) = fun j => iI (μ 5001 j) from funext (fun j => by rw [wr_na (by decide)])]
    exact e9
/-- other numbers for the same cells -/
theorem gl_adr {ad' : Nat → Nat} {ls' st' : List Value} (hnn : nn ≤ 293) (e : ∀ k, k < 293 ∨ k = 5000 ∨ k = 5001 ∨ k = 5005 ∨ k = 6000 ∨ 7000 ≤ k → ad' k = ad k) (e61 : nTx y ∨ (ad' 6100 = ad 6100 ∧ ad' 6101 = ad 6101)) (hls : ls'.map (av_l ad') = ls.map (av_l ad)) (hst : st'.map (av_l ad') = st.map (av_l ad)) (K : gl D cy X0 nn ad' F9 d kc ks y PQ PX pc ls' st' μ) : gl D cy X0 nn ad F9 d kc ks y PQ PX pc ls st μ := by
  intro p l e9 R s m args below meth c mc ms hc ho H locs cells slots lsA dv hw hS hl h1 h2
  obtain ⟨hR, E, hE, hP, hD⟩ := hw
  have ew : wsl cy dv ad' μ nn = wsl cy dv ad μ nn := wsl_adf hnn (fun k hk => e k (by omega))
  have h := gl_use K (cx_ad2 hc (e _ (by decide)) e61 (fun k hk => e k (by omega))) ho (dv := dv) (H := H) ⟨hR, E, sbx_ad hE (e _ (by decide)) (e _ (by decide)), by rw [ew]; exact hP, by rw [ew]; exact hD⟩ hS (lh_map hl hls) h1 h2 (e := e9) (below := below)
  rw [hst] at h
  exact h
/-- further cells in another order; some may be forgotten -/
theorem gl_cells {F3 G : va_W} (hp : F9.Perm (F3 ++ G)) (K : gl D cy X0 nn ad F3 d kc ks y PQ PX pc ls st μ) : gl D cy X0 nn ad F9 d kc ks y PQ PX pc ls st μ := by
  intro p l e R s m args below meth c mc ms hc ho H locs cells slots lsA dv hw hS hl h1 h2
  obtain ⟨hR, E, hE, hP, hD⟩ := hw
  have hq : (wsl cy dv ad μ nn ++ (E ++ F9)).Perm ((wsl cy dv ad μ nn ++ (E ++ F3)) ++ G) := by
    rw [List.append_assoc, List.append_assoc]
    exact List.Perm.append_left _ (List.Perm.append_left _ hp)
  exact gl_use K hc ho (dv := dv) ⟨hR, E, hE, P_l (va_P_perm hq hP), D_l (va_D_perm hq hD)⟩ hS hl h1 h2
/-- the builder's row: its length -/
theorem gl_balen (hnn : 276 ≤ nn) (hd : decode y.2.1 pc = .ok (.arraylength, 1)) (hm : μ 5003 0 ≠ 0) (K : gl D cy X0 nn ad F9 d kc ks y PQ PX (pc + 1) ls (.int (iI (μ 5002 0)) :: st) μ) : gl D cy X0 nn ad F9 d kc ks y PQ PX pc ls (.ref 5001 :: st) μ := by
  intro p l e R s m args below meth c mc ms hc ho H locs cells slots lsA dv hw hS hl h1 h2
  obtain ⟨c1, c2, c3, c4, c5, c6, c7, c8, c9, c10, c11⟩ := id hc
  obtain ⟨hR, E, hE, hP, hD⟩ := id hw
  rcases hE with ⟨g, -⟩ | ⟨-, sa, ml, e9, a1, a2, a3, a4⟩
  · omega
  have esa := a1 hm
  subst esa
  have he : (wsl cy dv ad μ nn ++ (E ++ F9))[(wsl cy dv ad μ nn).length + 1]? = some (ad 5001, .inl (cy 2, (μ 5002 0).toNat, .inl (fun j => iI (μ 5001 j)))) := by
    rw [e9]
    exact ap_get rfl
  exact va_alen c1 c2 c8.1 hP _ 2 he rfl (v := iI (μ 5002 0)) (by show Int32.ofNat (μ 5002 0).toNat = _; rw [iI_of (by omega)]; congr 1; omega) hd (gl_use K hc ho hw hS hl h1 h2)
end Frames
/-! lists of values whose numbers are P -/
def okr (P : Nat → Prop) (l : List Value) : Prop := ∀ v ∈ l, ∀ k, v = .ref k → P k
theorem okr_nil {P : Nat → Prop} : okr P [] := fun v hv => by cases hv
theorem okr_ref {P : Nat → Prop} {k : Nat} {l : List Value} (hk : P k) (h : okr P l) : okr P (.ref k :: l) := fun v hv j hj => (List.mem_cons.mp hv).elim (fun e => by rw [e] at hj; cases hj; exact hk) (fun e => h v e j hj)
theorem okr_int {P : Nat → Prop} {x : Int32} {l : List Value} (h : okr P l) : okr P (.int x :: l) := fun v hv j hj => (List.mem_cons.mp hv).elim (fun e => by rw [e] at hj; cases hj) (fun e => h v e j hj)
theorem okr_null {P : Nat → Prop} {l : List Value} (h : okr P l) : okr P (.null :: l) := fun v hv j hj => (List.mem_cons.mp hv).elim (fun e => by rw [e] at hj; cases hj) (fun e => h v e j hj)
theorem okr_map {P : Nat → Prop} {l : List Value} {ad ad' : Nat → Nat} (h : okr P l) (e : ∀ k, P k → ad' k = ad k) : l.map (av_l ad') = l.map (av_l ad) := List.map_congr_left (fun v hv => by
  cases v with
  | ref k => show Value.ref _ = Value.ref _; rw [e k (h _ hv k rfl)]
  | _ => rfl)
