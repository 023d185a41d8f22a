/-! CONSTRUCTORS: calls, references, answers -/
def gcP (D : va_G) (cy : Nat → ClassId) (X0 : Nat → Prop) (ad : Nat → Nat) (ws : va_W) (h : Nat) (as : List Value) : Array Value → State → Prop := fun v U =>
  v = (as.map (av_l ad)).toArray ∧ va_P D vwCl ws U.heap ∧ va_D (far X0) ws ∧ U.heap.size = h ∧ kx D cy X0 ad U U.heap ∧ AX X0 U.heap ∧ ao U
theorem gcP_blind {D : va_G} {cy : Nat → ClassId} {X0 : Nat → Prop} {ad : Nat → Nat} {ws : va_W} {h : Nat} {as : List Value} : FrameBlind (gcP D cy X0 ad ws h as) := by
  intro a U g mk hh
  obtain ⟨h1, h2, h3, h4, h5, h6, h7⟩ := hh
  exact ⟨h1, h2, h3, h4, kx_calling h5, h6, ao_moved (u := U) (U := U.calling g mk a) (Vm.Alike.refl U.vm) h7⟩
section GcCalls
variable {D : va_G} {cy : Nat → ClassId} {X0 : Nat → Prop} {ad : Nat → Nat} {d kc ks : Nat} {y : MI} {PQ : Array Value → State → Outcome → State → Prop} {PX : String → State → State → Prop} {pc : Nat} {ls st : List Value} {ws W0 L : va_W} {h : Nat}
theorem gc_met {d' kc' ks' : Nat} {y' : MI} {as : List Value} {PQ' : Array Value → State → Outcome → State → Prop} (K : gc D cy X0 ad d' kc' ks' y' PQ' noX 0 (els y' as) [] ws h) (hp : plainName y'.1.cls = true) (hh : y'.2.2.2.2.1 = []) (hsc : y'.2.2.2.2.2 = none) (hl : as.length ≤ y'.2.2.1) (hcat : ∀ v ∈ as, v.category = 1)
    {l : Launch} (hst : l.stackTraces = false) : Met l y'.1 (wsa y') (rmd d' kc' ks') (gcP D cy X0 ad ws h as) PQ' kc' ks' (far X0) := by
  have hM : vx_Met l y'.1 (wsa y') (rmd d' kc' ks') (gcP D cy X0 ad ws h as) PQ' noX kc' ks' (far X0) := by
    refine vx_ofW (cc := y'.2.1) (maxL := y'.2.2.1) (ret := y'.2.2.2.1) hp rfl ?_
    intro p e s m args below meth c s₁ B hml htb hv
    obtain ⟨rfl, hP, hD, hz, hk, hX, ho⟩ := hv
    have ht : c.exceptionTable.toList = tableOf y'.2.2.2.2.1 := by
      rw [hh]
      cases hx : c.exceptionTable.toList with
      | nil => rfl
      | cons a r => exact (htb a (by rw [hx]; exact List.mem_cons_self)).elim
    rw [lg_entry_eq]
    exact gc_use K (l := l) (R := (headSpec (wsa y') (rmd d' kc' ks')).room) ⟨B.exec, B.bytes, B.returns, hml, findClass_of_methodNamed B.named, fun w hw => atoms_spec (ws := wsa y') B.pre w (List.mem_cons_of_mem _ hw), B.notSynchronized, hk, Nat.le_refl 0, Nat.zero_le 400, Nat.le_refl d', Nat.le_refl (40 * d'), Nat.le_refl kc', Nat.le_refl ks', hX, ht, (name_of_methodNamed B.named B.method).1, hst, fun L xs => ⟨fun e => (by rw [hsc] at e; cases e), fun e => (by rw [hsc] at e; cases e)⟩⟩
      ho hP hD hz va_S.rf (lh_entry hl hcat) (by omega) (by omega)
  intro p e ha9 hc9 hk9 s m args below hf9 happ9 hP9 hK9
  obtain ⟨n, o, h1, h2, h3, h4⟩ := hM p e ha9 hc9 hk9 s m args below hf9 happ9 hP9 hK9
  refine ⟨n, o, h1, h2, h3, h4.elim id (fun hq => ?_)⟩
  obtain ⟨q, -, E, ce, L, hx, -⟩ := hq
  exact hx.elim
theorem gc_back {p : Program} {l : Launch} {e : Env} {R : Room} {s : State} {m : MethodId} {args : Array Value} {below : List Frame} {meth : Method} {c : Code} {H : Heap} {locs : List Loc} {cells slots kc' ks' : Nat} {Q : State → Prop} {lsA : Array Slot} {st0 rest : List Value} {PQ' : State → Outcome → State → Prop}
    (hrun : va_Run p l e R s m args below meth c H locs cells slots kc' ks' (F0 m pc lsA st0) rest PQ' (far X0)) (hF : ∀ st o t, PQ' st o t → va_F (far X0) st t) (hS : va_S (far X0) s.heap H locs)
    (hcont : ∀ (H' : Heap) (locs' : List Loc) (v : Option Value) (st₀ t : State), st₀.heap = H → t.heap = H' → PQ' st₀ (.returned v) t → va_S (far X0) s.heap H' locs' → W p l e R s m args below meth c H' locs' (cells + kc') (slots + ks') Q (F0 m (pc + 3) lsA (v.toList ++ rest))) :
    W p l e R s m args below meth c H locs cells slots Q (F0 m pc lsA st0) := by
  intro T hT X9
  obtain ⟨v, st₀, t, T', L, h0, X', hL, e1, e2, hq, st9⟩ := hrun T hT X9
  obtain ⟨hz, hk⟩ := hF _ _ _ hq
  rw [h0] at hz hk
  have hS' : va_S (far X0) s.heap T'.heap (locs ++ L) := ⟨Nat.le_trans hS.1 (by rw [e1]; exact hz), fun q h1 h2 => by rw [e1, hk q (Nat.lt_of_lt_of_le h1 hS.1) h2]; exact hS.2.1 q h1 h2, fun q hq => by
      rcases List.mem_append.mp hq with h | h
      · exact hS.2.2 q h
      · exact hL q h⟩
  obtain ⟨t2, a1, b1⟩ := hcont T'.heap (locs ++ L) v st₀ t h0 e1.symm hq hS' T' rfl X'
  exact ⟨t2, st9 t2 a1, b1⟩
/-- a constructor, by an ordinary or a nest link -/
theorem gc_callG {d' kc' ks' kc2 ks2 b idx n : Nat} {y' : MI} {as rest : List Value} {PQ' : Array Value → State → Outcome → State → Prop} (hd : decode y.2.1 pc = .ok (.invokespecial idx, 3)) (hst : st = as.reverse ++ .ref b :: rest) (hlk : Cond.methodLink y.1.cls idx y'.1 ∈ aw ∨ Cond.methodLinkNest y.1.cls idx y'.1 RX10 ∈ fw) (hm : mok y' n ∧ Cond.instanceMethod y'.1 ∈ aw) (hnm : y'.1.name = "<init>") (hr : y'.2.2.2.1 = none)
    (hn : as.length = n) (hl' : n + 1 ≤ y'.2.2.1) (hcat : ∀ v ∈ as, v.category = 1) (hW : (rest.map fun v => v.category).sum ≤ 8) (hdd : d' + 1 ≤ d) (hk : kc' + kc2 ≤ kc) (hks : ks' + ks2 ≤ ks) (hF : ∀ a st o t, PQ' a st o t → va_F (far X0) st t)
    (K : gc D cy X0 ad d' kc' ks' y' PQ' noX 0 (els y' (.ref b :: as)) [] ws h)
    (hcont : ∀ (p : Program) (l : Launch) (e : Env) (R : Room) (s : State) (m : MethodId) (args : Array Value) (below : List Frame) (meth : Method) (c : Code) (mc ms : Nat),
      cx 0 d y p l R s m args meth c D cy X0 mc ms 0 ad → ao s → ∀ (H : Heap) (locs : List Loc) (cells slots : Nat) (lsA : Array Slot) (a : Array Value) (v : Option Value) (st₀ t : State),
      PQ' a st₀ (.returned v) t → t.heap = H → st₀.heap.size = h → va_S (far X0) s.heap H locs → lh ad lsA y.2.2.1 ls → cells + kc2 ≤ mc → slots + ks2 ≤ ms → W p l e R s m args below meth c H locs cells slots (vx_MQ below PQ PX args s mc ms (far X0)) (F0 m (pc + 3) lsA (v.toList ++ rest.map (av_l ad)))) :
    gc D cy X0 ad d kc ks y PQ PX pc ls st ws h := by
  subst hst
  intro p l e R s m args below meth c mc ms hc ho H locs cells slots lsA hP hD hz hS hl h1 h2
  obtain ⟨c1, c2, c3, c4, c5, c6, c7, c8, c9, c10, c11, c12, c13, c14, c15, c16, c17, c18, c19⟩ := id hc
  obtain ⟨⟨k1, k2, k3, k4, k5, k6, k9⟩, k7⟩ := hm
  have hM := gc_met (l := l) K k3 k6 k9 (by simp; omega) (by simpa using ⟨rfl, hcat⟩) c18
  have hp : PreS s H (gcP D cy X0 ad ws h (.ref b :: as)) (.ref (ad b) :: as.map (av_l ad)) :=
    ⟨gcP_blind, fun U hU hWU => ⟨rfl, by rw [hU]; exact hP, hD, by rw [hU]; exact hz, by rw [hU]; exact kx_moved hWU hS c8, by rw [hU]; exact AX_le c15 hS.1, ao_moved hWU.alike ho⟩⟩
  have hst2 : (as.reverse ++ .ref b :: rest).map (av_l ad) = (as.map (av_l ad)).reverse ++ .ref (ad b) :: rest.map (av_l ad) := by simp [List.map_append, List.map_reverse, av_l]
  have hrun : va_Run p l e R s m args below meth c H locs cells slots kc' ks' (F0 m pc lsA ((as.reverse ++ .ref b :: rest).map (av_l ad))) (rest.map (av_l ad)) (PQ' (Value.ref (ad b) :: as.map (av_l ad)).toArray) (far X0) := by
    rcases hlk with hlk | hlk
    · have hcw : CallB R s args y.1.cls idx y'.1 y'.2.1 y'.2.2.1 y'.2.2.2.1 (wsa y') (rmd d' kc' ks') kc' ks' n :=
        callB_of n c6 (good_wsa k1) rfl rfl rfl (c6 _ k2) (c6 _ hlk) k4 ⟨by show d' + 1 ≤ _; omega, by show 8 + (y'.2.2.1 + 11) + 40 * d' ≤ _; omega⟩
      rw [hr] at hcw
      exact va_runI (As := as.map (av_l ad)) (b := ad b) (nL := y.2.2.1) ⟨c1, c2, c4, c5, c6⟩ hM ⟨hcw, hnm, c6 _ k7⟩ hp rfl (by rw [List.length_map]; exact hn) hl.1 hst2 (lv_room (by rw [av_sum]; exact hW)) hd ⟨by omega, by omega⟩
    · have hcw : va_CN R s args y.1.cls idx y'.1 RX10 y'.2.1 y'.2.2.1 y'.2.2.2.1 (wsa y') (rmd d' kc' ks') kc' ks' n :=
        va_cnB n c6 (good_wsa k1) rfl rfl rfl (c8.2.2.2.2.2.2.2.2.2.2 _ hlk) (c6 _ k2) k4 ⟨by show d' + 1 ≤ _; omega, by show 8 + (y'.2.2.1 + 11) + 40 * d' ≤ _; omega⟩
      rw [hr] at hcw
      exact va_runIN (As := as.map (av_l ad)) (b := ad b) (nL := y.2.2.1) ⟨c1, c2, c4, c5, c6⟩ hM ⟨hcw, hnm, c6 _ k7⟩ hp rfl (by rw [List.length_map]; exact hn) hl.1 hst2 (lv_room (by rw [av_sum]; exact hW)) hd ⟨by omega, by omega⟩
  exact gc_back hrun (fun st o t hq => hF _ st o t hq) hS (fun H' locs' v st₀ t e1 e2 hq hS' => hcont p l e R s m args below meth c mc ms hc ho H' locs' (cells + kc') (slots + ks') lsA _ v st₀ t hq e2 (by rw [e1]; exact hz) hS' hl (by omega) (by omega))
/-- a constructor, by an ordinary or a nest link -/
theorem gc_callGL {d' kc' ks' kc2 ks2 b idx n : Nat} {y' : MI} {as rest : List Value} {PQ' : Array Value → State → Outcome → State → Prop} (hd : decode y.2.1 pc = .ok (.invokespecial idx, 3)) (hst : st = as.reverse ++ .ref b :: rest) (hlk : Cond.methodLink y.1.cls idx y'.1 ∈ aw ∨ Cond.methodLinkNest y.1.cls idx y'.1 RL ∈ fw) (hm : mok y' n ∧ Cond.instanceMethod y'.1 ∈ aw) (hnm : y'.1.name = "<init>") (hr : y'.2.2.2.1 = none)
    (hn : as.length = n) (hl' : n + 1 ≤ y'.2.2.1) (hcat : ∀ v ∈ as, v.category = 1) (hW : (rest.map fun v => v.category).sum ≤ 8) (hdd : d' + 1 ≤ d) (hk : kc' + kc2 ≤ kc) (hks : ks' + ks2 ≤ ks) (hF : ∀ a st o t, PQ' a st o t → va_F (far X0) st t)
    (K : gc D cy X0 ad d' kc' ks' y' PQ' noX 0 (els y' (.ref b :: as)) [] ws h)
    (hcont : ∀ (p : Program) (l : Launch) (e : Env) (R : Room) (s : State) (m : MethodId) (args : Array Value) (below : List Frame) (meth : Method) (c : Code) (mc ms : Nat),
      cx 0 d y p l R s m args meth c D cy X0 mc ms 0 ad → ao s → ∀ (H : Heap) (locs : List Loc) (cells slots : Nat) (lsA : Array Slot) (a : Array Value) (v : Option Value) (st₀ t : State),
      PQ' a st₀ (.returned v) t → t.heap = H → st₀.heap.size = h → va_S (far X0) s.heap H locs → lh ad lsA y.2.2.1 ls → cells + kc2 ≤ mc → slots + ks2 ≤ ms → W p l e R s m args below meth c H locs cells slots (vx_MQ below PQ PX args s mc ms (far X0)) (F0 m (pc + 3) lsA (v.toList ++ rest.map (av_l ad)))) :
    gc D cy X0 ad d kc ks y PQ PX pc ls st ws h := by
  subst hst
  intro p l e R s m args below meth c mc ms hc ho H locs cells slots lsA hP hD hz hS hl h1 h2
  obtain ⟨c1, c2, c3, c4, c5, c6, c7, c8, c9, c10, c11, c12, c13, c14, c15, c16, c17, c18, c19⟩ := id hc
  obtain ⟨⟨k1, k2, k3, k4, k5, k6, k9⟩, k7⟩ := hm
  have hM := gc_met (l := l) K k3 k6 k9 (by simp; omega) (by simpa using ⟨rfl, hcat⟩) c18
  have hp : PreS s H (gcP D cy X0 ad ws h (.ref b :: as)) (.ref (ad b) :: as.map (av_l ad)) :=
    ⟨gcP_blind, fun U hU hWU => ⟨rfl, by rw [hU]; exact hP, hD, by rw [hU]; exact hz, by rw [hU]; exact kx_moved hWU hS c8, by rw [hU]; exact AX_le c15 hS.1, ao_moved hWU.alike ho⟩⟩
  have hst2 : (as.reverse ++ .ref b :: rest).map (av_l ad) = (as.map (av_l ad)).reverse ++ .ref (ad b) :: rest.map (av_l ad) := by simp [List.map_append, List.map_reverse, av_l]
  have hrun : va_Run p l e R s m args below meth c H locs cells slots kc' ks' (F0 m pc lsA ((as.reverse ++ .ref b :: rest).map (av_l ad))) (rest.map (av_l ad)) (PQ' (Value.ref (ad b) :: as.map (av_l ad)).toArray) (far X0) := by
    rcases hlk with hlk | hlk
    · have hcw : CallB R s args y.1.cls idx y'.1 y'.2.1 y'.2.2.1 y'.2.2.2.1 (wsa y') (rmd d' kc' ks') kc' ks' n :=
        callB_of n c6 (good_wsa k1) rfl rfl rfl (c6 _ k2) (c6 _ hlk) k4 ⟨by show d' + 1 ≤ _; omega, by show 8 + (y'.2.2.1 + 11) + 40 * d' ≤ _; omega⟩
      rw [hr] at hcw
      exact va_runI (As := as.map (av_l ad)) (b := ad b) (nL := y.2.2.1) ⟨c1, c2, c4, c5, c6⟩ hM ⟨hcw, hnm, c6 _ k7⟩ hp rfl (by rw [List.length_map]; exact hn) hl.1 hst2 (lv_room (by rw [av_sum]; exact hW)) hd ⟨by omega, by omega⟩
    · have hcw : va_CN R s args y.1.cls idx y'.1 RL y'.2.1 y'.2.2.1 y'.2.2.2.1 (wsa y') (rmd d' kc' ks') kc' ks' n :=
        va_cnB n c6 (good_wsa k1) rfl rfl rfl (c8.2.2.2.2.2.2.2.2.2.2 _ hlk) (c6 _ k2) k4 ⟨by show d' + 1 ≤ _; omega, by show 8 + (y'.2.2.1 + 11) + 40 * d' ≤ _; omega⟩
      rw [hr] at hcw
      exact va_runIN (As := as.map (av_l ad)) (b := ad b) (nL := y.2.2.1) ⟨c1, c2, c4, c5, c6⟩ hM ⟨hcw, hnm, c6 _ k7⟩ hp rfl (by rw [List.length_map]; exact hn) hl.1 hst2 (lv_room (by rw [av_sum]; exact hW)) hd ⟨by omega, by omega⟩
  exact gc_back hrun (fun st o t hq => hF _ st o t hq) hS (fun H' locs' v st₀ t e1 e2 hq hS' => hcont p l e R s m args below meth c mc ms hc ho H' locs' (cells + kc') (slots + ks') lsA _ v st₀ t hq e2 (by rw [e1]; exact hz) hS' hl (by omega) (by omega))
theorem gc_call {d' kc' ks' kc2 ks2 b idx n : Nat} {y' : MI} {as rest : List Value} (Qw : va_W → Nat → Prop) (hd : decode y.2.1 pc = .ok (.invokespecial idx, 3)) (hst : st = as.reverse ++ .ref b :: rest) (hlk : Cond.methodLink y.1.cls idx y'.1 ∈ aw ∨ Cond.methodLinkNest y.1.cls idx y'.1 RX10 ∈ fw) (hm : mok y' n ∧ Cond.instanceMethod y'.1 ∈ aw) (hnm : y'.1.name = "<init>" ∧ y'.2.2.2.1 = none)
    (hn : as.length = n) (hl' : n + 1 ≤ y'.2.2.1) (hcat : ∀ v ∈ as, v.category = 1) (hW : (rest.map fun v => v.category).sum ≤ 8) (hq : d' + 1 ≤ d ∧ kc' + kc2 ≤ kc ∧ ks' + ks2 ≤ ks)
    (K : gc D cy X0 ad d' kc' ks' y' (gcQ D X0 Qw) noX 0 (els y' (.ref b :: as)) [] ws h)
    (hcont : ∀ ws' h', Qw ws' h' → gc D cy X0 ad d kc2 ks2 y PQ PX (pc + 3) ls rest ws' h') :
    gc D cy X0 ad d kc ks y PQ PX pc ls st ws h := by
  refine gc_callG (kc2 := kc2) (ks2 := ks2) hd hst hlk hm hnm.1 hnm.2 hn hl' hcat hW hq.1 hq.2.1 hq.2.2 (fun a st o t hq => hq.2) K ?_
  intro p l e R s m args below meth c mc ms hc ho H locs cells slots lsA a v st₀ t hq e1 e2 hS hl h1 h2
  obtain ⟨⟨hv, ws', h', hw, hP, hD, hz⟩, -⟩ := hq
  have hv' : v = none := by injection hv
  subst hv'
  rw [e1] at hP hz
  exact gc_use (hcont ws' h' hw) hc ho hP hD hz hS hl h1 h2
theorem gc_callL {d' kc' ks' kc2 ks2 b idx n : Nat} {y' : MI} {as rest : List Value} (Qw : va_W → Nat → Prop) (hd : decode y.2.1 pc = .ok (.invokespecial idx, 3)) (hst : st = as.reverse ++ .ref b :: rest) (hlk : Cond.methodLink y.1.cls idx y'.1 ∈ aw ∨ Cond.methodLinkNest y.1.cls idx y'.1 RL ∈ fw) (hm : mok y' n ∧ Cond.instanceMethod y'.1 ∈ aw) (hnm : y'.1.name = "<init>" ∧ y'.2.2.2.1 = none)
    (hn : as.length = n) (hl' : n + 1 ≤ y'.2.2.1) (hcat : ∀ v ∈ as, v.category = 1) (hW : (rest.map fun v => v.category).sum ≤ 8) (hq : d' + 1 ≤ d ∧ kc' + kc2 ≤ kc ∧ ks' + ks2 ≤ ks)
    (K : gc D cy X0 ad d' kc' ks' y' (gcQ D X0 Qw) noX 0 (els y' (.ref b :: as)) [] ws h)
    (hcont : ∀ ws' h', Qw ws' h' → gc D cy X0 ad d kc2 ks2 y PQ PX (pc + 3) ls rest ws' h') :
    gc D cy X0 ad d kc ks y PQ PX pc ls st ws h := by
  refine gc_callGL (kc2 := kc2) (ks2 := ks2) hd hst hlk hm hnm.1 hnm.2 hn hl' hcat hW hq.1 hq.2.1 hq.2.2 (fun a st o t hq => hq.2) K ?_
  intro p l e R s m args below meth c mc ms hc ho H locs cells slots lsA a v st₀ t hq e1 e2 hS hl h1 h2
  obtain ⟨⟨hv, ws', h', hw, hP, hD, hz⟩, -⟩ := hq
  have hv' : v = none := by injection hv
  subst hv'
  rw [e1] at hP hz
  exact gc_use (hcont ws' h' hw) hc ho hP hD hz hS hl h1 h2
theorem gc_return {Qw : va_W → Nat → Prop} (hd : decode y.2.1 pc = .ok (.return_, 1)) (hr : y.2.2.2.1 = none) (K : Qw ws h) : gc D cy X0 ad d kc ks y (gcQ D X0 Qw) PX pc ls [] ws h := by
  intro p l e R s m args below meth c mc ms hc ho H locs cells slots lsA hP hD hz hS hl h1 h2
  obtain ⟨c1, c2, c3, c4, c5, c6, c7, c8, c9, c10, c11⟩ := hc
  refine W.widen (k := mc) (n := ms) (by omega) (by omega) (vx_ret ?_)
  exact W.vret c1 c2 (c3.trans hr) (fun t ht hW => ⟨⟨rfl, ws, h, K, by rw [ht]; exact hP, hD, by rw [ht]; exact hz⟩, hS.F ht⟩) hS.2.2 hd c7
theorem gc_getR (i : Nat) {idx ci j a q : Nat} {fs : List Value} (hd : decode y.2.1 pc = .ok (.getfield idx, 3)) (hf : flk y.1.cls idx ci j) (hi : L[i]? = some (ad a, .inr (ci, fs))) (hj : fs[j]? = some (.ref (ad q))) (K : gc D cy X0 ad d kc ks y PQ PX (pc + 3) ls (.ref q :: st) (W0 ++ L) h) : gc D cy X0 ad d kc ks y PQ PX pc ls (.ref a :: st) (W0 ++ L) h := by
  intro p l e R s m args below meth c mc ms hc ho H locs cells slots lsA hP hD hz hS hl h1 h2
  obtain ⟨C, T, N, ty, f1, f2, f3, f4, f5, f6, f7⟩ := hf
  obtain ⟨c1, c2, c3, c4, c5, c6, c7, c8, c9, c10, c11⟩ := id hc
  rcases f3 with f3 | f3
  · exact va_get (Ts := aw) (v := .ref (ad q)) c1 c2 c6 f4 c5 c8.1 hP (W0.length + i) (ap_get hi) f1 j f2 (c6 _ f3) (fun x h => by rw [f7] at h; exact h) hj hd (gc_use K hc ho hP hD hz hS hl h1 h2)
  · exact va_getN (Ts := aw) (v := .ref (ad q)) c1 c2 c6 f4 c5 c8.1 hP (W0.length + i) (ap_get hi) f1 j f2 (fw_at f3 (c8.2.2.2.2.2.2.2.2.2.2 _ f3)) (fun x h => by rw [f7] at h; exact h) hj hd (gc_use K hc ho hP hD hz hS hl h1 h2)
/-- a field that is not final -/
def fpkA (own : String) (idx ci j : Nat) (t : FieldType) : Prop := ∃ (C : String) (T : u_T) (N : Nat) (ty : Nat → FieldType), vwCl[ci]? = some (C, T, N) ∧ j < N ∧ Cond.fieldLink own idx (T j).1 (T j).2.1 (T j).2.2.1 ∈ aw ∧ (∀ w ∈ u_ws C T N, w ∈ aw) ∧
  (∀ k, k < N → parseFieldDescriptor (T k).2.2.1 = some (ty k)) ∧ (∀ a, a < N → ∀ b, b < N → a ≠ b → (T a).2.1 ≠ (T b).2.1) ∧ (T j).2.2.2 = false ∧ parseFieldDescriptor (T j).2.2.1 = some t
theorem gc_put (i : Nat) {idx ci j a : Nat} {v : Value} {t : FieldType} {fs : List Value} (hd : decode y.2.1 pc = .ok (.putfield idx, 3)) (hf : fpkA y.1.cls idx ci j t) (hi : L[i]? = some (ad a, .inr (ci, fs))) (hn : narrow t (av_l ad v) = av_l ad v) (hfit : fits t (av_l ad v) = true) (hlt : j < fs.length)
    (K : gc D cy X0 ad d kc ks y PQ PX (pc + 3) ls st (W0 ++ L.set i (ad a, .inr (ci, fs.set j (av_l ad v)))) h) : gc D cy X0 ad d kc ks y PQ PX pc ls (v :: .ref a :: st) (W0 ++ L) h := by
  intro p l e R s m args below meth c mc ms hc ho H locs cells slots lsA hP hD hz hS hl h1 h2
  obtain ⟨c1, c2, c3, c4, c5, c6, c7, c8, c9, c10, c11, c12, c13, c14, c15, c16, c17, c18, c19⟩ := id hc
  obtain ⟨C, T, N, ty, f1, f2, f3, f4, f5, f6, f8, f10⟩ := hf
  refine va_putz (Ts := aw) (v := av_l ad v) (ty := t) c1 c2 c6 f4 ty f5 f6 c5 c8.1 hP hD hS (W0.length + i) (ap_get hi) f1 j f2 (c6 _ f3) (fun x h => h) f8 f10 hn hfit hlt hd (fun H1 locs1 hP1 hD1 hS1 hz1 => ?_)
  rw [ap_set] at hP1 hD1
  exact gc_use K hc ho hP1 hD1 (hz1.trans hz) hS1 hl h1 h2
theorem gc_compact {idx : Nat} (hd : decode y.2.1 pc = .ok (.getstatic idx, 3)) (hlk : Cond.fieldLink y.1.cls idx RJ0 "COMPACT_STRINGS" "Z" ∈ aw) (K : gc D cy X0 ad d kc ks y PQ PX (pc + 3) ls (.int (iI 1) :: st) ws h) : gc D cy X0 ad d kc ks y PQ PX pc ls st ws h := by
  intro p l e R s m args below meth c mc ms hc ho H locs cells slots lsA hP hD hz hS hl h1 h2
  obtain ⟨c1, c2, c3, c4, c5, c6, c7, c8, c9⟩ := id hc
  exact va_gets c1 c2 c8.2.2.2.2.1 hS c5 (c6 _ hlk) (fun x h => h) hd (gc_use K hc ho hP hD hz hS hl h1 h2)
/-- a chamber put into a row -/
theorem gc_aastore (i k : Nat) {a b N : Nat} {x : Int} {n : Nat} {f : Nat → Option Nat} {fs : List Value} (hd : decode y.2.1 pc = .ok (.aastore, 1)) (hi : L[i]? = some (ad a, .inl (cy 3, N, .inr (.inr (.inr (.inr f)))))) (hk : L[k]? = some (ad b, .inr (5, fs))) (hx : x = (n : Int)) (hn : n < N) (hN : N < 4000)
    (K : gc D cy X0 ad d kc ks y PQ PX (pc + 1) ls st (W0 ++ L.set i (ad a, .inl (cy 3, N, .inr (.inr (.inr (.inr (va_up f n (some (ad b)))))))) ) h) : gc D cy X0 ad d kc ks y PQ PX pc ls (.ref b :: .int (iI x) :: .ref a :: st) (W0 ++ L) h := by
  intro p l e R s m args below meth c mc ms hc ho H locs cells slots lsA hP hD hz hS hl h1 h2
  obtain ⟨c1, c2, c3, c4, c5, c6, c7, c8, c9, c10, c11⟩ := id hc
  subst hx
  have hK := c8.1
  have hin := iI_in hn (by omega : N < 2147483648)
  have hcl : (iI (n : Int)).toNatClampNeg = n := iI_clamp (by omega)
  have hlt : (iI (n : Int)).toNatClampNeg < N := Nat.not_le.mp fun q => hin (Or.inr q)
  have h0 : ¬ (iI (n : Int)) < 0 := fun q => hin (Or.inl q)
  have ha := ap_get (W0 := W0) hi
  obtain ⟨r', hr', cellV, g1, g2, g3, -⟩ := hP (W0.length + k) _ (ap_get hk)
  have hcls := (hK.1 5 (RX1, TX1, 11) rfl).2
  obtain ⟨kA, comp, k1, k2, k3, -⟩ := (hK.2 3 (cy 3, .object "BarberParliament$Chamber") rfl).2
  have hcomp : comp = D.1 5 := Option.some.inj (k3.symm.trans hcls.1)
  subst hcomp
  obtain ⟨kC, hkC, -⟩ := hcls.2
  refine W.aast c1 c2 (hP (W0.length + i) _ ha) (fun q h => by cases h) (fun h => by cases h) k1 k2 rfl hkC ⟨h0, by show _ < (arrV _ _ _).slots.size; rw [arrV_size]; exact hlt⟩ g1 (fun q h => by rw [g3] at h; cases h) (by rw [g2]; exact hkC) (by rw [g2]; exact va_assign hcls) rfl rfl hd fun H1 e z oq => ?_
  have hc1 : H1[ad a]? = some (vp_cell (cy 3) (N, .inr (.inr (.inr (.inr (va_up f n (some (ad b)))))))) := by
    rw [e, vp_cell_q, vp_cell_q, arrV_store, hcl]
    congr 2
    funext q
    by_cases hq : q = n
    · subst hq
      simp [updV, va_up, va_rf]
    · simp [updV, va_up, hq]
  have hP1 := hP.set (e := .inl (cy 3, N, .inr (.inr (.inr (.inr (va_up f n (some (ad b)))))))) hD ha hc1 oq
  have hD1 := hD.set (e := .inl (cy 3, N, .inr (.inr (.inr (.inr (va_up f n (some (ad b)))))))) ha
  rw [ap_set] at hP1 hD1
  exact gc_use K hc ho hP1 hD1 (z.trans hz) (hS.put z oq (hD.2 (W0.length + i) _ ha)) hl h1 h2
/-- a chamber put into a row -/
theorem gc_aastoreO (i k : Nat) {a b N : Nat} {x : Int} {n : Nat} {f : Nat → Option Nat} {fs : List Value} (hd : decode y.2.1 pc = .ok (.aastore, 1)) (hi : L[i]? = some (ad a, .inl (cy 4, N, .inr (.inr (.inr (.inr f)))))) (hk : L[k]? = some (ad b, .inr (15, fs))) (hx : x = (n : Int)) (hn : n < N) (hN : N < 4000)
    (K : gc D cy X0 ad d kc ks y PQ PX (pc + 1) ls st (W0 ++ L.set i (ad a, .inl (cy 4, N, .inr (.inr (.inr (.inr (va_up f n (some (ad b)))))))) ) h) : gc D cy X0 ad d kc ks y PQ PX pc ls (.ref b :: .int (iI x) :: .ref a :: st) (W0 ++ L) h := by
  intro p l e R s m args below meth c mc ms hc ho H locs cells slots lsA hP hD hz hS hl h1 h2
  obtain ⟨c1, c2, c3, c4, c5, c6, c7, c8, c9, c10, c11⟩ := id hc
  subst hx
  have hK := c8.1
  have hin := iI_in hn (by omega : N < 2147483648)
  have hcl : (iI (n : Int)).toNatClampNeg = n := iI_clamp (by omega)
  have hlt : (iI (n : Int)).toNatClampNeg < N := Nat.not_le.mp fun q => hin (Or.inr q)
  have h0 : ¬ (iI (n : Int)) < 0 := fun q => hin (Or.inl q)
  have ha := ap_get (W0 := W0) hi
  obtain ⟨r', hr', cellV, g1, g2, g3, -⟩ := hP (W0.length + k) _ (ap_get hk)
  have hcls := (hK.1 15 (RX11, TX11, 33) rfl).2
  obtain ⟨kA, comp, k1, k2, k3, -⟩ := (hK.2 4 (cy 4, .object "BarberParliamentLaw$Own") rfl).2
  have hcomp : comp = D.1 15 := Option.some.inj (k3.symm.trans hcls.1)
  subst hcomp
  obtain ⟨kC, hkC, -⟩ := hcls.2
  refine W.aast c1 c2 (hP (W0.length + i) _ ha) (fun q h => by cases h) (fun h => by cases h) k1 k2 rfl hkC ⟨h0, by show _ < (arrV _ _ _).slots.size; rw [arrV_size]; exact hlt⟩ g1 (fun q h => by rw [g3] at h; cases h) (by rw [g2]; exact hkC) (by rw [g2]; exact va_assign hcls) rfl rfl hd fun H1 e z oq => ?_
  have hc1 : H1[ad a]? = some (vp_cell (cy 4) (N, .inr (.inr (.inr (.inr (va_up f n (some (ad b)))))))) := by
    rw [e, vp_cell_q, vp_cell_q, arrV_store, hcl]
    congr 2
    funext q
    by_cases hq : q = n
    · subst hq
      simp [updV, va_up, va_rf]
    · simp [updV, va_up, hq]
  have hP1 := hP.set (e := .inl (cy 4, N, .inr (.inr (.inr (.inr (va_up f n (some (ad b)))))))) hD ha hc1 oq
  have hD1 := hD.set (e := .inl (cy 4, N, .inr (.inr (.inr (.inr (va_up f n (some (ad b)))))))) ha
  rw [ap_set] at hP1 hD1
  exact gc_use K hc ho hP1 hD1 (z.trans hz) (hS.put z oq (hD.2 (W0.length + i) _ ha)) hl h1 h2
end GcCalls
