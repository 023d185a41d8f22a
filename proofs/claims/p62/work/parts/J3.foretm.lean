/-! A FORECAST, as a method -/
theorem lh_map {ad ad' : Nat → Nat} {lsA : Array Slot} {nL : Nat} {ls ls' : List Value} (h : lh ad lsA nL ls) (e : ls'.map (av_l ad') = ls.map (av_l ad)) : lh ad' lsA nL ls' := by
  obtain ⟨h1, h2, h3, h4, h5⟩ := h
  have hlen : ls'.length = ls.length := by have := congrArg List.length e; simpa using this
  have key : ∀ (i : Nat) (v' : Value), ls'[i]? = some v' → ∃ v, ls[i]? = some v ∧ av_l ad' v' = av_l ad v := by
    intro i v' hv
    have h6 : (ls'.map (av_l ad'))[i]? = some (av_l ad' v') := by rw [List.getElem?_map, hv]; rfl
    rw [e, List.getElem?_map] at h6
    cases h7 : ls[i]? with
    | none => rw [h7] at h6; cases h6
    | some v => rw [h7] at h6; exact ⟨v, rfl, by injection h6 with h6; exact h6.symm⟩
  refine ⟨h1, h2, fun v' hv => ?_, by rw [hlen]; exact h4, fun i v' hv hne => ?_⟩
  · obtain ⟨i, hi⟩ := List.getElem?_of_mem hv
    obtain ⟨v, g1, g2⟩ := key i v' hi
    rw [← av_cat ad' v', g2, av_cat]
    exact h3 v (List.mem_of_getElem? g1)
  · obtain ⟨v, g1, g2⟩ := key i v' hv
    rw [g2]
    refine h5 i v g1 (fun w => ?_)
    rw [w] at g2
    cases v' with
    | null => exact hne rfl
    | _ => exact absurd g2 (by intro w; cases w)
/-- one number anew -/
def ad1 (ad : Nat → Nat) (k a : Nat) : Nat → Nat := fun j => if j = k then a else ad j
theorem ad1_s {ad : Nat → Nat} {k a : Nat} : ad1 ad k a k = a := if_pos rfl
theorem ad1_n {ad : Nat → Nat} {k a j : Nat} (h : j ≠ k) : ad1 ad k a j = ad j := if_neg h
def nok (k : Nat) (l : List Value) : Prop := ∀ v ∈ l, v ≠ .ref k
theorem av_nok {ad : Nat → Nat} {k a : Nat} {l : List Value} (hl : nok k l) : ∀ v ∈ l, av_l (ad1 ad k a) v = av_l ad v := by
  intro v hv
  cases v with
  | ref j => show Value.ref _ = Value.ref _; rw [ad1_n (fun e => hl _ hv (by rw [e]))]
  | _ => rfl
theorem nok_nil {k : Nat} : nok k [] := fun v hv => by cases hv
theorem nok_ref {k j : Nat} {l : List Value} (hk : j ≠ k) (h : nok k l) : nok k (.ref j :: l) := fun v hv => (List.mem_cons.mp hv).elim (fun e w => by rw [e] at w; cases w; exact hk rfl) (h v)
theorem nok_int {k : Nat} {x : Int32} {l : List Value} (h : nok k l) : nok k (.int x :: l) := fun v hv => (List.mem_cons.mp hv).elim (fun e w => by rw [e] at w; cases w) (h v)
theorem nok_null {k : Nat} {l : List Value} (h : nok k l) : nok k (.null :: l) := fun v hv => (List.mem_cons.mp hv).elim (fun e w => by rw [e] at w; cases w) (h v)
section GlNew
variable {D : va_G} {cy : Nat → ClassId} {X0 : Nat → Prop} {nn : Nat} {ad : Nat → Nat} {F9 : va_W} {d kc ks : Nat} {y : MI} {PQ : Array Value → State → Outcome → State → Prop} {PX : String → State → State → Prop} {pc : Nat} {ls st : List Value} {μ : Mem}
/-- a new row of ints, that gets the number 401 -/
theorem gl_newI {N : Nat} {i : Int} (hd : decode y.2.1 pc = .ok (.newarray .int, 2)) (hi : i = (N : Int)) (hN : N ≤ 4000) (h293 : nn ≤ 310) (hls : nok 401 ls) (hst : nok 401 st)
    (K : ∀ a, gl D cy X0 nn (ad1 ad 401 a) (F9 ++ [(a, .inl (cy 0, N, .inl (fun _ => iI 0)))]) d kc ks y PQ PX (pc + 2) ls (.ref 401 :: st) μ) : gl D cy X0 nn ad F9 d (kc + 1) (ks + N) y PQ PX pc ls (.int (iI i) :: st) μ := by
  intro p l e R s m args below meth c mc ms hc ho H locs cells slots lsA dv hw hS hl h1 h2
  obtain ⟨c1, c2, c3, c4, c5, c6, c7, c8, c9, c10, c11, c12, c13, c14, c15, c16, c17, c18, c19⟩ := id hc
  obtain ⟨hR, E, hE, hP, hD⟩ := hw
  have hRA := (c8.1.2 0 (cy 0, .int) rfl).2
  subst hi
  refine va_newaK c1 c2 (c6 _ (tb_in 112 (by decide +kernel) (by decide +kernel))) rfl hd rfl (N := N) (by
    show ¬ iI (N : Int) < iI 0
    rw [iI_lt ⟨by omega, by omega⟩ rng0]
    omega) (iI_clamp (by omega)) (by show N * componentBytes .int ≤ 536870912; have : componentBytes .int = 4 := rfl; rw [this]; omega) (by omega) (by omega) (h := H.size) rfl fun H1 cA e1 z1 o1 hAr hNm => ?_
  have hcA : cA = cy 0 := Option.some.inj (hNm.symm.trans hRA)
  subst hcA
  have hk2 : ∀ (k : Nat) (x : Nat × va_E), (wsl cy dv ad μ nn ++ (E ++ F9))[k]? = some x → H1[x.1]? = H[x.1]? := fun k x hx => o1 x.1 ((hP k x hx).lt)
  have hs : ∀ k, k ≠ 401 → ad1 ad 401 H.size k = ad k := fun k hk => ad1_n hk
  have ew : wsl cy dv (ad1 ad 401 H.size) μ nn = wsl cy dv ad μ nn := wsl_ad (fun k hk => hs k (by omega)) (fun k hk q hq => hs q (by have := ref_310 k (by omega) (some q) hq; have h9 : q < 310 ∨ 400 ≤ q := this; have := ref_401 k (by omega) (some q) hq; exact fun w => this (by rw [w])))
  have hc1 := cx_ad (ad' := ad1 ad 401 H.size) hc ⟨hs _ (by decide), hs _ (by decide), hs _ (by decide)⟩ (fun k hk => hs k (by omega))
  have hm : Value.ref H.size :: st.map (av_l ad) = (Value.ref 401 :: st).map (av_l (ad1 ad 401 H.size)) := by
    show _ = Value.ref (ad1 ad 401 H.size 401) :: st.map (av_l (ad1 ad 401 H.size))
    rw [ad1_s, List.map_congr_left (fun v hv => av_nok hst v hv)]
  show W p l e R s m args below meth c H1 locs (cells + 1) (slots + N) _ (F0 m (pc + 2) lsA (Value.ref H.size :: st.map (av_l ad)))
  rw [hm]
  refine gl_use (dv := dv) (K H.size) hc1 ho ⟨hR, E, sbx_ad hE (hs _ (by decide)) (hs _ (by decide)), ?_, ?_⟩ ⟨Nat.le_trans hS.1 (by omega), fun x h1 h2 => (o1 x (Nat.lt_of_lt_of_le h1 hS.1)).trans (hS.2.1 x h1 h2), hS.2.2⟩ (lh_ad hl (fun v hv => av_nok hls v hv)) (by omega) (by omega)
  · rw [ew, ← List.append_assoc, ← List.append_assoc, List.append_assoc (wsl cy dv ad μ nn) E F9]
    refine (hP.kept hk2).app (fun k x hx => ?_)
    have hz : k < 1 := (List.getElem?_eq_some_iff.mp hx).1
    rw [show k = 0 by omega] at hx
    cases hx
    show H1[H.size]? = some (vp_cell _ _)
    rw [cell_0]
    exact e1
  · rw [ew, ← List.append_assoc, ← List.append_assoc, List.append_assoc (wsl cy dv ad μ nn) E F9]
    exact hD.push hP rfl (c15 _ hS.1)
/-- from here on in the numbering ad', without further cells -/
theorem gl_go {n3 : Nat} {ad' : Nat → Nat} {ls' st' : List Value} {μ' : Mem} {Q : Option Value → Mem → Prop} (hn : nn ≤ n3 ∧ n3 ≤ 400) (e6 : ∀ k, 5000 ≤ k → ad' k = ad k) (hls : ls'.map (av_l ad') = ls.map (av_l ad)) (hst : st'.map (av_l ad') = st.map (av_l ad)) (hμ : ∀ b j, 5000 ≤ b → μ' b j = μ b j) (hR : (∀ a i, rng (μ a i)) → ∀ a i, rng (μ' a i))
    (hp : ∀ dv E, (wsl cy dv ad μ nn ++ (E ++ F9)).Perm (wsl cy dv ad' μ' n3 ++ E)) (h276 : 276 ≤ nn) (hPQ : ∀ a st o t, gQ D cy X0 n3 ad' Q a st o t → PQ a st o t) (hPX : ∀ E st t, gX D cy X0 n3 ad' (fun _ _ => False) E st t → PX E st t) (K : go n3 d kc ks y Q (fun _ _ => False) pc ls' st' μ') : gl D cy X0 nn ad F9 d kc ks y PQ PX pc ls st μ := by
  intro p l e R s m args below meth c mc ms hc ho H locs cells slots lsA dv hw hS hl h1 h2
  obtain ⟨hR0, E, hE, hP, hD⟩ := hw
  have hc1 := cx_ad (ad' := ad') hc ⟨e6 _ (by decide), e6 _ (by decide), e6 _ (by decide)⟩ (fun k hk => e6 k (by omega))
  obtain ⟨b1, b2, b3, b4, b5, b6, b7, b8, b9, b10, b11, b12, b13, b14, b15, b16, b17, b18, b19⟩ := hc1
  have hE1 : sbx cy ad' μ' n3 E := by
    have hE0 := sbx_ad hE (e6 5000 (by decide)) (e6 5001 (by decide))
    rcases hE0 with ⟨g, -⟩ | ⟨-, sa, ml, e9, a1, a2, a3, a4⟩
    · omega
    · refine Or.inr ⟨by omega, sa, ml, ?_, ?_, ?_, ?_, fun j => ?_⟩
      · rw [hμ 5000 0 (by decide), hμ 5002 0 (by decide), show (fun j => iI (μ' 5001 j)) = fun j => iI (μ 5001 j) from funext (fun j => by rw [hμ 5001 j (by decide)])]
        exact e9
      · rw [hμ 5003 0 (by decide)]; exact a1
      · rw [hμ 5000 0 (by decide), hμ 5002 0 (by decide)]; exact a2
      · rw [hμ 5002 0 (by decide)]; exact a3
      · rw [hμ 5001 j (by decide)]; exact a4 j
  have h := go_use K (n := n3) ⟨b1, b2, b3, b4, b5, b6, b7, b8, Nat.le_refl _, hn.2, b11, b12, b13, b14, b15, b16, b17, b18, b19⟩ ⟨hR hR0, E, hE1, va_P_perm (hp dv E) hP, va_D_perm (hp dv E) hD⟩ hS (lh_map hl hls) h1 h2 (e := e) (below := below)
  rw [hst] at h
  exact W_mono h (fun t ht => vx_MQ_mono (fun st o t q => hPQ _ st o t q) (fun E st t q => hPX E st t q) t ht)
end GlNew
