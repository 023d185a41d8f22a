/-! CALLS OF METHODS WITH HANDLERS -/
def wsH (y : MI) : List Cond := .codeWith y.1 y.2.1 y.2.2.1 y.2.2.2.1 y.2.2.2.2.1 :: aw
def mokH (y : MI) (n : Nat) : Prop := Cond.codeWith y.1 y.2.1 y.2.2.1 y.2.2.2.1 y.2.2.2.2.1 ∈ aw ∧ Cond.initialized y.1.cls ∈ aw ∧ plainName y.1.cls = true ∧ (y.1.cls ≠ "java/lang/invoke/MethodHandle" ∧ y.1.cls ≠ "java/lang/invoke/VarHandle" ∧ (parseMethodDescriptor y.1.desc).map (fun d => d.parameters.length) = some n) ∧ y.2.2.1 ≤ 20 ∧ y.2.2.2.2.2 = none ∧ Cond.static y.1 ∈ aw
theorem mtH_vx {z d kc ks : Nat} {y : MI} {as : List Value} {Q : Option Value → Mem → Prop} {X : String → Mem → Prop} {μ : Mem} (h : mt z d kc ks y as Q X μ) (hp : plainName y.1.cls = true) (hsc : y.2.2.2.2.2 = none) (hl : as.length ≤ y.2.2.1) (hc : ∀ v ∈ as, v.category = 1)
    {l : Launch} (hst : l.stackTraces = false) {D : va_G} {cy : Nat → ClassId} {X0 n : Nat} {ad : Nat → Nat} {dv : UInt64} (hz : z ≤ n) (hn : n ≤ 300) :
    vx_Met l y.1 (wsH y) (rmd d kc ks) (gP D cy X0 n ad dv μ as) (gQ D cy X0 n ad Q) (gX D cy X0 n ad X) kc ks (fun q : Nat => X0 ≤ q) := by
  refine vx_ofWH (cc := y.2.1) (maxL := y.2.2.1) (ret := y.2.2.2.1) (hh := y.2.2.2.2.1) hp rfl ?_
  intro p e s m args below meth c s₁ B hml hv
  have ht : c.exceptionTable.toList = tableOf y.2.2.2.2.1 := vx_table (x := y.1) B (atoms_spec (ws := wsH y) B.pre _ List.mem_cons_self)
  obtain ⟨rfl, hw, hk, hX⟩ := hv
  rw [lg_entry_eq]
  exact go_use h (l := l) (R := (headSpec (wsH y) (rmd d kc ks)).room) ⟨B.exec, B.bytes, B.returns, hml, findClass_of_methodNamed B.named, fun w hw => atoms_spec (ws := wsH y) B.pre w (List.mem_cons_of_mem _ hw), B.notSynchronized, hk, hz, hn, Nat.le_refl d, Nat.le_refl (40 * d), Nat.le_refl kc, Nat.le_refl ks, hX, ht, (name_of_methodNamed B.named B.method).1, hst, fun L xs e => by rw [hsc] at e; cases e⟩
    hw va_S.rf (lh_entry hl hc) (by omega) (by omega)
section CallsSH
variable {z d kc ks : Nat} {y : MI} {Q : Option Value → Mem → Prop} {X : String → Mem → Prop} {pc : Nat} {ls st : List Value} {μ : Mem}
theorem go_callSH {z' d' kc' ks' kc2 ks2 idx n : Nat} {y' : MI} {as rest : List Value} (hd : decode y.2.1 pc = .ok (.invokestatic idx, 3)) (hst : st = as.reverse ++ rest) (hlk : Cond.methodLink y.1.cls idx y'.1 ∈ aw) (hm : mokH y' n)
    (hn : as.length = n) (hl' : n ≤ y'.2.2.1) (hcat : ∀ v ∈ as, v.category = 1) (hW : (rest.map fun v => v.category).sum ≤ 8) (hz : z' ≤ z) (hdd : d' + 1 ≤ d) (hk : kc' + kc2 ≤ kc) (hks : ks' + ks2 ≤ ks) (hh : y.2.2.2.2.1 = [])
    (K : mt z' d' kc' ks' y' as (fun r μ' => go z d kc2 ks2 y Q X (pc + 3) ls (psh r rest) μ') X μ) : go z d kc ks y Q X pc ls st μ := by
  subst hst
  intro p l e R s m args below meth c D cy X0 mc ms nn ad hc H locs cells slots lsA dv hw hS hl h1 h2
  obtain ⟨c1, c2, c3, c4, c5, c6, c7, c8, c9, c10, c11, c12, c13, c14, c15, c16, c17, c18, c19⟩ := id hc
  obtain ⟨k1, k2, k3, k4, k5, k9, k7⟩ := hm
  have hM := mtH_vx (l := l) (D := D) (cy := cy) (X0 := X0) (n := nn) (ad := ad) (dv := dv) K k3 k9 (by omega) hcat c18 (by omega) c10
  have hg : GoodIn aw (va_wsS y.1.cls idx y'.1 (wsH y')) := by
    intro w hw
    unfold va_wsS at hw
    rcases List.mem_append.mp hw with h | h
    · simp only [List.mem_cons, List.not_mem_nil, or_false] at h
      rcases h with rfl | rfl | rfl
      · exact aw_good _ hlk
      · exact aw_good _ k7
      · exact aw_good _ k2
    · rcases List.mem_cons.mp h with rfl | h
      · exact aw_good _ k1
      · exact aw_good _ h
  have hcw : vx_CSW R s args y.1.cls idx y'.1 y'.2.1 y'.2.2.1 y'.2.2.2.1 y'.2.2.2.2.1 (wsH y') (rmd d' kc' ks') kc' ks' n :=
    vx_cwSW n c6 hg rfl rfl rfl k4 ⟨by show d' + 1 ≤ _; omega, by show 8 + (y'.2.2.1 + 11) + 40 * d' ≤ _; omega⟩
  have hp : PreS s H (gP D cy X0 nn ad dv μ as) (as.map (av_l ad)) :=
    ⟨gP_blind, fun U hU hWU => ⟨rfl, by rw [hU]; exact hw, by rw [hU]; exact kx_moved hWU hS c8, by rw [hU]; exact Nat.le_trans c15 hS.1⟩⟩
  refine go_backH (kc' := kc') (ks' := ks') (kc2 := kc2) (ks2 := ks2) (rest := rest) hc hS hl (by omega) (by omega) (a := (as.map (av_l ad)).toArray) (go_thru hc hh (kc2 := kc2) (ks2 := ks2) (by omega) (by omega)) ?_
  refine vx_runSX (As := as.map (av_l ad)) (nL := y.2.2.1) ⟨c1, c2, c4, c5, c6⟩ hM hcw hp rfl (by rw [List.length_map]; exact hn) hl.1 ?_ (lv_room (by rw [av_sum]; exact hW)) hd ⟨by omega, by omega⟩
  simp [List.map_append, List.map_reverse]
end CallsSH
