/-! A FORECAST: the call -/
def ftP (D : va_G) (cy : Nat → ClassId) (X0 : Nat → Prop) (ad : Nat → Nat) (dv : UInt64) (μ : Mem) (as : List Value) : Array Value → State → Prop := fun v U =>
  gP D cy X0 293 ad dv μ as v U ∧ ao U
theorem ftP_blind {D : va_G} {cy : Nat → ClassId} {X0 : Nat → Prop} {ad : Nat → Nat} {dv : UInt64} {μ : Mem} {as : List Value} : FrameBlind (ftP D cy X0 ad dv μ as) := by
  intro a U g mk h
  exact ⟨gP_blind a U g mk h.1, ao_moved (u := U) (U := U.calling g mk a) (Vm.Alike.refl U.vm) h.2⟩
/-- a body over cells, as a method -/
theorem gl_met {D : va_G} {cy : Nat → ClassId} {X0 : Nat → Prop} {ad : Nat → Nat} {dv : UInt64} {μ : Mem} {y : MI} {as : List Value} {d kc ks : Nat} {PQ : Array Value → State → Outcome → State → Prop} (K : gl D cy X0 293 ad [] d kc ks y PQ noX 0 (els y as) [] μ) (hp : plainName y.1.cls = true) (hh : y.2.2.2.2.1 = []) (hsc : y.2.2.2.2.2 = none) (hl : as.length ≤ y.2.2.1) (hc : ∀ v ∈ as, v.category = 1)
    {l : Launch} (hst : l.stackTraces = false) : vx_Met l y.1 (wsa y) (rmd d kc ks) (ftP D cy X0 ad dv μ as) PQ noX kc ks X0 := by
  refine vx_ofW (cc := y.2.1) (maxL := y.2.2.1) (ret := y.2.2.2.1) hp rfl ?_
  intro p e s m args below meth c s₁ B hml htb hv
  obtain ⟨⟨rfl, hw, hk, hX⟩, ho⟩ := hv
  have ht : c.exceptionTable.toList = tableOf y.2.2.2.2.1 := by
    rw [hh]
    cases hx : c.exceptionTable.toList with
    | nil => rfl
    | cons a r => exact (htb a (by rw [hx]; exact List.mem_cons_self)).elim
  rw [lg_entry_eq]
  obtain ⟨hR, E, hE, hP, hD⟩ := hw
  exact gl_use K (l := l) (R := (headSpec (wsa y) (rmd d kc ks)).room) ⟨B.exec, B.bytes, B.returns, hml, findClass_of_methodNamed B.named, fun w hw => atoms_spec (ws := wsa y) B.pre w (List.mem_cons_of_mem _ hw), B.notSynchronized, hk, Nat.le_refl _, by decide, Nat.le_refl d, Nat.le_refl (40 * d), Nat.le_refl kc, Nat.le_refl ks, hX, ht, (name_of_methodNamed B.named B.method).1, hst, fun L xs => ⟨fun e => (by rw [hsc] at e; cases e), fun e => (by rw [hsc] at e; cases e)⟩⟩
    ho (dv := dv) ⟨hR, E, hE, by rw [List.append_nil]; exact hP, by rw [List.append_nil]; exact hD⟩ va_S.rf (lh_entry hl hc) (by omega) (by omega)
section GlFore
variable {D : va_G} {cy : Nat → ClassId} {X0 : Nat → Prop} {ad : Nat → Nat} {F9 : va_W} {d kc ks : Nat} {y : MI} {PQ : Array Value → State → Outcome → State → Prop} {PX : String → State → State → Prop} {pc : Nat} {ls st : List Value} {μ : Mem}
theorem gl_foretold {S σ : Mem} {T : Int} {idx kc2 ks2 : Nat} (hd : decode y.2.1 pc = .ok (.invokestatic idx, 3)) (hlk : Cond.methodLink y.1.cls idx yL_isForetold ∈ aw) (hS : wfS S) (hC : wfC S σ) (hZ : zro S σ) (hL : lim S σ (4 * T)) (h5 : 0 ≤ σ 0 5 ∧ σ 0 5 ≤ T) (hT : T ≤ 100000) {q mi : Nat} (hq : (q : Int) ≤ σ 5 0) (hmi : mi < 301) (hF : FI S σ μ)
    (hW : (st.map fun v => v.category).sum ≤ 8) (hdd : 9 ≤ d) (hk : 18 + kc2 ≤ kc) (hks : 394 + ks2 ≤ ks)
    (K : ∀ μ', FI S σ μ' → (∀ a j, a < 41 ∨ (62 ≤ a ∧ a < 293) → μ' a j = μ a j) → gl D cy X0 293 ad F9 d kc2 ks2 y PQ PX (pc + 3) ls (.int (iI 1) :: st) μ') : gl D cy X0 293 ad F9 d kc ks y PQ PX pc ls (.int (iI (mi : Nat)) :: .int (iI (q : Nat)) :: .ref 276 :: .ref 0 :: st) μ := by
  intro p l e R s m args below meth c mc ms hc ho H locs cells slots lsA dv hw hS9 hl h1 h2
  obtain ⟨c1, c2, c3, c4, c5, c6, c7, c8, c9, c10, c11, c12, c13, c14, c15, c16, c17, c18, c19⟩ := id hc
  obtain ⟨⟨k1, k2, k3, k4, k5, k6, k9⟩, k7⟩ := ok_L_isForetold
  obtain ⟨hR, E, hE, hP, hD⟩ := hw
  rw [← List.append_assoc] at hP hD
  have hsub := sub_le hD c15 hS9
  have hM := gl_met (l := l) (dv := dv) (as := [.ref 0, .ref 276, .int (iI (q : Nat)), .int (iI (mi : Nat))]) (ft_body (D := D) (cy := cy) (X0 := va_A (wsl cy dv ad μ 293 ++ E) H.size) (ad := ad) hS hC hZ hL h5 hT hq hmi hF) k3 k6 k9 (show (4 : Nat) ≤ 9 by decide) (by intro v hv; simp only [List.mem_cons, List.not_mem_nil, or_false] at hv; rcases hv with rfl | rfl | rfl | rfl <;> rfl) c18
  have hcw : CallB R s args y.1.cls idx yL_isForetold mL_isForetold.2.1 mL_isForetold.2.2.1 mL_isForetold.2.2.2.1 (wsa mL_isForetold) (rmd 8 18 394) 18 394 4 ∧ (Cond.static yL_isForetold).before args s = true :=
    ⟨callB_of 4 c6 (good_wsa k1) rfl rfl rfl (c6 _ k2) (c6 _ hlk) k4 ⟨by show 8 + 1 ≤ _; omega, by show 8 + (9 + 11) + 40 * 8 ≤ _; omega⟩, c6 _ k7⟩
  have hp : PreS s H (ftP D cy (va_A (wsl cy dv ad μ 293 ++ E) H.size) ad dv μ [.ref 0, .ref 276, .int (iI (q : Nat)), .int (iI (mi : Nat))]) ([.ref 0, .ref 276, .int (iI (q : Nat)), .int (iI (mi : Nat))].map (av_l ad)) :=
    ⟨ftP_blind, fun U hU hWU => ⟨⟨rfl, by rw [hU]; exact ⟨hR, E, hE, P_l hP, (D_l hD).self⟩, by rw [hU]; exact kx_nar (kx_moved hWU hS9 c8) hsub, by rw [hU]; exact fun q hq => Or.inr hq⟩, ao_moved hWU.alike ho⟩⟩
  have hrun : vx_Run p l e R s m args below meth c H locs cells slots 18 394 (F0 m pc lsA ((Value.int (iI (mi : Nat)) :: .int (iI (q : Nat)) :: .ref 276 :: .ref 0 :: st).map (av_l ad))) (st.map (av_l ad)) (ftQ D cy (va_A (wsl cy dv ad μ 293 ++ E) H.size) ad μ S σ ([.ref 0, .ref 276, .int (iI (q : Nat)), .int (iI (mi : Nat))].map (av_l ad)).toArray) noX (va_A (wsl cy dv ad μ 293 ++ E) H.size) :=
    vx_runS (As := [.ref 0, .ref 276, .int (iI (q : Nat)), .int (iI (mi : Nat))].map (av_l ad)) (nL := y.2.2.1) ⟨c1, c2, c4, c5, c6⟩ hM hcw hp rfl rfl hl.1 rfl (lv_room (by rw [av_sum]; exact hW)) hd ⟨by omega, by omega⟩
  refine gl_backV hrun (fun st o t h => h.2) hsub hS9 (fun H' locs' v st₀ t e1 e2 hq9 hS' => ?_)
  obtain ⟨⟨μ', dv', hv, g1, g2, hw⟩, hFF⟩ := hq9
  have hv' : v = some (.int (iI 1)) := by injection hv
  subst hv'
  obtain ⟨hR', E', hE', hP', hD'⟩ := hw
  rw [e2] at hP'
  obtain ⟨z1, z2⟩ := fr_join hP hD hsub (fun q h1 h2 => by rw [← e2, ← e1]; exact hFF.2 q (by rw [e1]; exact h1) h2) hP' hD'
  rw [List.append_assoc] at z1 z2
  exact gl_use (K μ' g1 g2) hc ho ⟨hR', E', hE', z1, z2⟩ hS' hl (by omega) (by omega)
end GlFore
