/-! A CALL on the text builder, number 5000 -/
section GlB
variable {D : va_G} {cy : Nat → ClassId} {X0 : Nat → Prop} {nn : Nat} {ad : Nat → Nat} {F9 : va_W} {d kc ks : Nat} {y : MI} {PQ : Array Value → State → Outcome → State → Prop} {PX : String → State → State → Prop} {pc : Nat} {ls st : List Value} {μ : Mem}
theorem gl_callB {z' d' kc' ks' kc2 ks2 idx n : Nat} {y' : MI} {as rest : List Value} (hd : decode y.2.1 pc = .ok (.invokevirtual idx, 3)) (hst : st = as.reverse ++ .ref 5000 :: rest) (hlk : Cond.methodLink y.1.cls idx y'.1 ∈ aw) (hm : mokV y' n) (hcl : ∃ T N, vwCl[1]? = some (y'.1.cls, T, N)) (hb : 276 ≤ nn)
    (hn : as.length = n) (hl' : n + 1 ≤ y'.2.2.1) (hcat : ∀ v ∈ as, v.category = 1) (hW : (rest.map fun v => v.category).sum ≤ 8) (hz : z' ≤ nn) (hdd : d' + 1 ≤ d) (hk : kc' + kc2 ≤ kc) (hks : ks' + ks2 ≤ ks)
    (K : mt z' d' kc' ks' y' (.ref 5000 :: as) (fun r μ' => gl D cy X0 nn ad F9 d kc2 ks2 y PQ PX (pc + 3) ls (psh r rest) μ') (fun _ _ => False) μ) : gl D cy X0 nn ad F9 d kc ks y PQ PX pc ls st μ := by
  subst hst
  intro p l e R s m args below meth c mc ms hc ho H locs cells slots lsA dv hw hS hl h1 h2
  obtain ⟨c1, c2, c3, c4, c5, c6, c7, c8, c9, c10, c11, c12, c13, c14, c15, c16, c17, c18, c19⟩ := id hc
  obtain ⟨⟨k1, k2, k3, k4, k5, k6, k9⟩, k7, k8⟩ := hm
  obtain ⟨TT, NN, hcl⟩ := hcl
  obtain ⟨hR, E, hE, hP, hD⟩ := hw
  rw [← List.append_assoc] at hP hD
  have hsub := sub_le hD c15 hS
  have hM := met_quiet (mt_vxS (l := l) (D := D) (cy := cy) (X0 := va_A (wsl cy dv ad μ nn ++ E) H.size) (n := nn) (ad := ad) (dv := dv) K k3 k6 (by simp; omega) (by simpa using ⟨rfl, hcat⟩) c18 (by omega) c10)
  have hcw : CallW R s args y.1.cls y'.1.cls idx y'.1 y'.2.1 y'.2.2.1 y'.2.2.2.1 (wsa y') (rmd d' kc' ks') kc' ks' n :=
    ⟨callB_of n c6 (good_wsa k1) rfl rfl rfl (c6 _ k2) (c6 _ hlk) k4 ⟨by show d' + 1 ≤ _; omega, by show 8 + (y'.2.2.1 + 11) + 40 * d' ≤ _; omega⟩, c6 _ k7, c6 _ k8⟩
  obtain ⟨xE, rE, sE, hxE⟩ : ∃ x r fs, E = (ad 5000, .inr (1, fs)) :: r ∧ x = (ad 5000, (.inr (1, fs) : va_E)) := by
    rcases hE with ⟨g, -⟩ | ⟨-, sa, ml, e, -⟩
    · omega
    · exact ⟨_, _, _, e, rfl⟩
  have he : (wsl cy dv ad μ nn ++ E)[(wsl cy dv ad μ nn).length]? = some (ad 5000, .inr (1, sE)) := by rw [hxE.1]; exact ap_mid
  have hp : PreV s H y'.1.cls (ad 5000) (gPs y' D cy (va_A (wsl cy dv ad μ nn ++ E) H.size) nn ad dv μ (.ref 5000 :: as)) (as.map (av_l ad)) :=
    ⟨gPs_blind, va_recv c8.1 (P_l hP) hcl he, fun U hU hWU => ⟨⟨rfl, by rw [hU]; exact ⟨hR, E, hE, P_l hP, (D_l hD).self⟩, by rw [hU]; exact kx_nar (kx_moved hWU hS c8) hsub, by rw [hU]; exact fun q hq => Or.inr hq⟩, scx_no k9⟩⟩
  refine gl_cont (kc' := kc') (ks' := ks') (kc2 := kc2) (ks2 := ks2) (rest := rest) (Q := fun r μ' => gl D cy X0 nn ad F9 d kc2 ks2 y PQ PX (pc + 3) ls (psh r rest) μ') (fun r μ' h => h) hc ho hP hD hS hl (by omega) (by omega) (a := (Value.ref (ad 5000) :: as.map (av_l ad)).toArray) ?_
  refine vx_runV (As := as.map (av_l ad)) (b := ad 5000) (nL := y.2.2.1) ⟨c1, c2, c4, c5, c6⟩ hM hcw hp rfl (by rw [List.length_map]; exact hn) hl.1 ?_ (lv_room (by rw [av_sum]; exact hW)) hd ⟨by omega, by omega⟩
  simp [List.map_append, List.map_reverse, av_l]
end GlB
