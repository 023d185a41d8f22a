/-! A COPY OF AN OWN: the call -/
theorem adx_same {ad : Nat → Nat} {n0 a0 : Nat} (h0 : n0 ≤ 400) : ∀ k, k < n0 ∨ 400 ≤ k → adx ad n0 a0 k = ad k := fun k h => adx_o h
theorem wsl_ads {cy : Nat → ClassId} {dv : UInt64} {ad ad' : Nat → Nat} {μ : Mem} (h : ∀ k, k < 293 ∨ 400 ≤ k → ad' k = ad k) : wsl cy dv ad' μ 293 = wsl cy dv ad μ 293 :=
  wsl_ad (fun k hk => h k (Or.inl hk)) (fun k hk q hq => h q (by have := ref_293 k hk (some q) hq; exact this))
theorem cop_met {l : Launch} (hst : l.stackTraces = false) {D : va_G} {cy : Nat → ClassId} {X0 : Nat → Prop} {ad : Nat → Nat} {dv : UInt64} {μ : Mem} :
    vx_Met l yX11_copy (wsa mX11_copy) (rmd 3 17 382) (copP D cy X0 ad dv μ) (copQ D cy X0 ad μ) noX 17 382 X0 := by
  refine vx_ofW (cc := mX11_copy.2.1) (maxL := mX11_copy.2.2.1) (ret := mX11_copy.2.2.2.1) ok_X11_copy.1.2.2.1 rfl ?_
  intro p e s m args below meth c s₁ B hml htb hv
  obtain ⟨⟨rfl, hw, hk, hX⟩, ho⟩ := hv
  obtain ⟨hR, E, hE, hP, hD⟩ := hw
  have ht : c.exceptionTable.toList = tableOf mX11_copy.2.2.2.2.1 := by
    cases hx : c.exceptionTable.toList with
    | nil => rfl
    | cons a r => exact (htb a (by rw [hx]; exact List.mem_cons_self)).elim
  rw [lg_entry_eq]
  have hs := adx_same (ad := ad) (n0 := 293) (a0 := s.heap.size) (by decide)
  have hc0 : cx 0 3 mX11_copy p l (headSpec (wsa mX11_copy) (rmd 3 17 382)).room s m ([.ref 276].map (av_l ad)).toArray meth c D cy X0 17 382 0 ad := ⟨B.exec, B.bytes, B.returns, hml, findClass_of_methodNamed B.named, fun w hw => atoms_spec (ws := wsa mX11_copy) B.pre w (List.mem_cons_of_mem _ hw), B.notSynchronized, hk, Nat.le_refl _, Nat.zero_le _, Nat.le_refl _, Nat.le_refl _, Nat.le_refl _, Nat.le_refl _, hX, ht, (name_of_methodNamed B.named B.method).1, hst, fun L xs => ⟨fun e => (by cases e), fun e => (by cases e)⟩⟩
  have hc1 := cx_ad (ad' := adx ad 293 s.heap.size) hc0 ⟨hs _ (by decide), hs _ (by decide), hs _ (by decide)⟩ (fun k hk => hs k (Or.inr (by omega)))
  have hl0 := lh_entry (ad := ad) (y := mX11_copy) (as := [.ref 276]) (show (1 : Nat) ≤ 3 by decide) (by intro v hv; rw [List.mem_singleton.mp hv]; rfl)
  have hl1 : lh (adx ad 293 s.heap.size) _ mX11_copy.2.2.1 [.ref 276, .null, .null] := lh_ad hl0 (fun v hv => by
    simp only [List.mem_cons, List.not_mem_nil, or_false] at hv
    rcases hv with rfl | rfl | rfl
    · show Value.ref _ = Value.ref _
      rw [hs 276 (by decide)]
    · rfl
    · rfl)
  have hg := cp_gc (D := D) (cy := cy) (X0 := X0) (ad := adx ad 293 s.heap.size) (dv := dv) (μ := μ) (E := E) (h := s.heap.size) (Q := fun r μ' => ∃ ω', (∀ r j, cpO 12 16 192 4 13 r j → ω' r j = srcO μ r j) ∧ r = some (.ref 293) ∧ μ' = ow 293 ω' μ) (fun i hi => adx_n i (by omega)) hR (sbx_ad hE (hs _ (by decide)) (hs _ (by decide))) (fun ω' h => ⟨ω', h, rfl, rfl⟩)
  rw [wsl_ads hs, List.append_nil] at hg
  refine W_mono (gc_use hg hc1 ho hP hD rfl va_S.rf hl1 (by omega) (by omega)) (fun t ht2 => vx_MQ_mono (fun st o t hq => ?_) (fun E9 st t hq => ?_) t ht2)
  · obtain ⟨⟨r, μ', dv', hv, ⟨ω', h1, h2, h3⟩, hw'⟩, hF⟩ := hq
    subst h2 h3
    exact ⟨⟨_, ω', dv', hs, hv, h1, hw'⟩, hF⟩
  · obtain ⟨⟨μ', dv', w, -⟩, -⟩ := hq
    exact w.elim
/-- values that a new number doesn't touch -/
def okn (l : List Value) : Prop := ∀ v ∈ l, ∀ k, v = .ref k → k < 293 ∨ 400 ≤ k
theorem okn_nil : okn [] := fun v hv => by cases hv
theorem okn_ref {k : Nat} {l : List Value} (hk : k < 293 ∨ 400 ≤ k) (h : okn l) : okn (.ref k :: l) := fun v hv j hj => (List.mem_cons.mp hv).elim (fun e => by rw [e] at hj; cases hj; exact hk) (fun e => h v e j hj)
theorem okn_int {x : Int32} {l : List Value} (h : okn l) : okn (.int x :: l) := fun v hv j hj => (List.mem_cons.mp hv).elim (fun e => by rw [e] at hj; cases hj) (fun e => h v e j hj)
theorem okn_null {l : List Value} (h : okn l) : okn (.null :: l) := fun v hv j hj => (List.mem_cons.mp hv).elim (fun e => by rw [e] at hj; cases hj) (fun e => h v e j hj)
theorem av_okn {ad ad' : Nat → Nat} (h : ∀ k, k < 293 ∨ 400 ≤ k → ad' k = ad k) {l : List Value} (hl : okn l) : ∀ v ∈ l, av_l ad' v = av_l ad v := by
  intro v hv
  cases v with
  | ref k => show Value.ref _ = Value.ref _; rw [h k (hl _ hv k rfl)]
  | _ => rfl
section GlCopy
variable {D : va_G} {cy : Nat → ClassId} {X0 : Nat → Prop} {ad : Nat → Nat} {F9 : va_W} {d kc ks : Nat} {y : MI} {PQ : Array Value → State → Outcome → State → Prop} {PX : String → State → State → Prop} {pc : Nat} {ls st : List Value} {μ : Mem}
theorem gl_copy {idx kc2 ks2 : Nat} (hd : decode y.2.1 pc = .ok (.invokevirtual idx, 3)) (hlk : Cond.methodLink y.1.cls idx yX11_copy ∈ aw) (hls : okn ls) (hst : okn st) (hW : (st.map fun v => v.category).sum ≤ 8) (hdd : 4 ≤ d) (hk : 17 + kc2 ≤ kc) (hks : 382 + ks2 ≤ ks)
    (K : ∀ ad' ω', (∀ k, k < 293 ∨ 400 ≤ k → ad' k = ad k) → (∀ r j, cpO 12 16 192 4 13 r j → ω' r j = srcO μ r j) → gl D cy X0 310 ad' F9 d kc2 ks2 y PQ PX (pc + 3) ls (.ref 293 :: st) (ow 293 ω' μ)) : gl D cy X0 293 ad F9 d kc ks y PQ PX pc ls (.ref 276 :: st) μ := by
  intro p l e R s m args below meth c mc ms hc ho H locs cells slots lsA dv hw hS hl h1 h2
  obtain ⟨c1, c2, c3, c4, c5, c6, c7, c8, c9, c10, c11, c12, c13, c14, c15, c16, c17, c18, c19⟩ := id hc
  obtain ⟨⟨k1, k2, k3, k4, k5, k6, k9⟩, k7, k8⟩ := ok_X11_copy
  obtain ⟨hR, E, hE, hP, hD⟩ := hw
  rw [← List.append_assoc] at hP hD
  have hsub := sub_le hD c15 hS
  have hM := cop_met (l := l) c18 (D := D) (cy := cy) (X0 := va_A (wsl cy dv ad μ 293 ++ E) H.size) (ad := ad) (dv := dv) (μ := μ)
  have hcw : CallW R s args y.1.cls RX11 idx yX11_copy mX11_copy.2.1 mX11_copy.2.2.1 mX11_copy.2.2.2.1 (wsa mX11_copy) (rmd 3 17 382) 17 382 0 :=
    ⟨callB_of 0 c6 (good_wsa k1) rfl rfl rfl (c6 _ k2) (c6 _ hlk) k4 ⟨by show 3 + 1 ≤ _; omega, by show 8 + (3 + 11) + 40 * 3 ≤ _; omega⟩, c6 _ k7, c6 _ k8⟩
  have he : (wsl cy dv ad μ 293 ++ E)[276]? = some (ad 276, .inr (15, flv ad μ 276 0 (own_shp 276 0).2.2)) := by rw [wsl_get (by decide), ent_0 (show shp 276 = (0, 15, (own_shp 276 0).2.2) from rfl)]
  have hp : PreV s H RX11 (ad 276) (copP D cy (va_A (wsl cy dv ad μ 293 ++ E) H.size) ad dv μ) [] :=
    ⟨copP_blind, va_recv (q := (RX11, TX11, 33)) c8.1 (P_l hP) rfl he, fun U hU hWU => ⟨⟨rfl, by rw [hU]; exact ⟨hR, E, hE, P_l hP, (D_l hD).self⟩, by rw [hU]; exact kx_nar (kx_moved hWU hS c8) hsub, by rw [hU]; exact fun q hq => Or.inr hq⟩, ao_moved hWU.alike ho⟩⟩
  have hrun : vx_Run p l e R s m args below meth c H locs cells slots 17 382 (F0 m pc lsA ((Value.ref 276 :: st).map (av_l ad))) (st.map (av_l ad)) (copQ D cy (va_A (wsl cy dv ad μ 293 ++ E) H.size) ad μ (Value.ref (ad 276) :: []).toArray) noX (va_A (wsl cy dv ad μ 293 ++ E) H.size) :=
    vx_runV (As := []) (b := ad 276) (nL := y.2.2.1) ⟨c1, c2, c4, c5, c6⟩ hM hcw hp rfl rfl hl.1 rfl (lv_room (by rw [av_sum]; exact hW)) hd ⟨by omega, by omega⟩
  refine gl_backV hrun (fun st o t h => h.2) hsub hS (fun H' locs' v st₀ t e1 e2 hq hS' => ?_)
  obtain ⟨⟨ad', ω', dv', had, hv, hcp, hw⟩, hF⟩ := hq
  have hv' : v = some (.ref (ad' 293)) := by injection hv
  subst hv'
  obtain ⟨hR', E', hE', hP', hD'⟩ := hw
  rw [e2] at hP'
  obtain ⟨z1, z2⟩ := fr_join hP hD hsub (fun q h1 h2 => by rw [← e2, ← e1]; exact hF.2 q (by rw [e1]; exact h1) h2) hP' hD'
  rw [List.append_assoc] at z1 z2
  have hm : (some (Value.ref (ad' 293))).toList ++ st.map (av_l ad) = (Value.ref 293 :: st).map (av_l ad') := by
    show Value.ref (ad' 293) :: st.map (av_l ad) = Value.ref (ad' 293) :: st.map (av_l ad')
    rw [List.map_congr_left (fun v hv => (av_okn had hst v hv).symm)]
  rw [hm]
  have hc1 := cx_ad (ad' := ad') hc ⟨had _ (by decide), had _ (by decide), had _ (by decide)⟩ (fun k hk => had k (Or.inr (by omega)))
  obtain ⟨b1, b2, b3, b4, b5, b6, b7, b8, b9, b10, b11, b12, b13, b14, b15, b16, b17, b18, b19⟩ := hc1
  exact gl_use (K ad' ω' had hcp) ⟨b1, b2, b3, b4, b5, b6, b7, b8, Nat.le_refl _, by decide, b11, b12, b13, b14, b15, b16, b17, b18, b19⟩ ho ⟨hR', E', hE', z1, z2⟩ hS' (lh_ad hl (av_okn had hls)) (by omega) (by omega)
end GlCopy
