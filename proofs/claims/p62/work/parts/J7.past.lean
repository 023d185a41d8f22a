/-! THE ROW OF THE PAST: number 402, an Own put aside 403, one taken out 404 -/
/-- its cell -/
abbrev paC (cy : Nat → ClassId) (N a : Nat) (f : Nat → Option Nat) : Nat × va_E := (a, .inl (cy 4, N, .inr (.inr (.inr (.inr f)))))
def lwQ (X0 : Nat → Prop) : Array Value → State → Outcome → State → Prop := fun _ st oc t => oc = .returned (some (.int (iI 1))) ∧ va_F X0 st t
section GlPast
variable {D : va_G} {cy : Nat → ClassId} {X0 : Nat → Prop} {nn : Nat} {ad : Nat → Nat} {F9 G9 : va_W} {d kc ks : Nat} {y : MI} {PQ : Array Value → State → Outcome → State → Prop} {PX : String → State → State → Prop} {pc : Nat} {ls st : List Value} {μ : Mem}
theorem gl_newo {idx : Nat} {i : Int} (hd : decode y.2.1 pc = .ok (.anewarray idx, 3)) (hcl : Cond.classLink y.1.cls idx "BarberParliamentLaw$Own" ∈ aw) (hi : i = 48) (h293 : nn ≤ 293) (hls : nok 402 ls) (hst : nok 402 st)
    (K : ∀ a, gl D cy X0 nn (ad1 ad 402 a) (F9 ++ [paC cy 48 a (fun _ => none)]) d kc ks y PQ PX (pc + 3) ls (.ref 402 :: st) μ) : gl D cy X0 nn ad F9 d (kc + 1) (ks + 48) y PQ PX pc ls (.int (iI i) :: st) μ := by
  intro p l e R s m args below meth c mc ms hc ho H locs cells slots lsA dv hw hS hl h1 h2
  obtain ⟨c1, c2, c3, c4, c5, c6, c7, c8, c9, c10, c11, c12, c13, c14, c15, c16, c17, c18, c19⟩ := id hc
  obtain ⟨hR, E, hE, hP, hD⟩ := hw
  have hRA := (c8.1.2 4 _ rfl).2
  subst hi
  have eN : (iI (48 : Int)).toNatClampNeg = 48 := by decide
  refine W.anew c1 c2 c5 (c6 _ hcl) (va_AO.use ho.2) rfl hd rfl (by decide) (by rw [eN]; omega) (by omega) (by rw [eN]; omega) fun cA kA comp f1 f2 f3 f4 => ?_
  rw [eN]
  obtain ⟨kA9, comp9, -, -, -, h3⟩ := hRA
  have hcA : cA = cy 4 := Option.some.inj (f1.symm.trans h3)
  subst hcA
  generalize hH1 : H.push ({ cls := cy 4, slots := Array.replicate 48 .null, vm := .none } : Cell) = H1
  have z1 : H1.size = H.size + 1 := by rw [← hH1, Array.size_push]
  have e1 : H1[H.size]? = some (arrV (cy 4) 48 (fun _ => .null)) := by rw [← hH1, Array.getElem?_push_size, ← arrV_new]
  have o1 : ∀ q : Nat, q < H.size → H1[q]? = H[q]? := fun q hq => by rw [← hH1, Array.getElem?_push, if_neg (Nat.ne_of_lt hq)]
  have hk2 : ∀ (k : Nat) (x : Nat × va_E), (wsl cy dv ad μ nn ++ (E ++ F9))[k]? = some x → H1[x.1]? = H[x.1]? := fun k x hx => o1 x.1 ((hP k x hx).lt)
  have hs : ∀ k, k ≠ 402 → ad1 ad 402 H.size k = ad k := fun k hk => ad1_n hk
  have ew : wsl cy dv (ad1 ad 402 H.size) μ nn = wsl cy dv ad μ nn := wsl_ad (fun k hk => hs k (by omega)) (fun k hk q hq => hs q (by
    have h8 := ref_293 k (by omega) (some q) hq
    have h9 : q < 293 ∨ 400 ≤ q := h8
    have h10 := ref_5000 k (by omega) (some q) hq
    have h11 : q < 400 ∨ 5000 ≤ q := h10
    omega))
  have hc1 := cx_ad (ad' := ad1 ad 402 H.size) hc ⟨hs _ (by decide), hs _ (by decide), hs _ (by decide)⟩ (fun k hk => hs k (by omega))
  have hm : Value.ref H.size :: st.map (av_l ad) = (Value.ref 402 :: st).map (av_l (ad1 ad 402 H.size)) := by
    show _ = Value.ref (ad1 ad 402 H.size 402) :: st.map (av_l (ad1 ad 402 H.size))
    rw [ad1_s, List.map_congr_left (fun v hv => av_nok hst v hv)]
  show W p l e R s m args below meth c H1 locs (cells + 1) (slots + 48) _ (F0 m (pc + 3) lsA (Value.ref H.size :: st.map (av_l ad)))
  rw [hm]
  refine gl_use (dv := dv) (K H.size) hc1 ho ⟨hR, E, sbx_ad hE (hs _ (by decide)) (hs _ (by decide)), ?_, ?_⟩ ⟨Nat.le_trans hS.1 (by omega), fun x h1 h2 => (o1 x (Nat.lt_of_lt_of_le h1 hS.1)).trans (hS.2.1 x h1 h2), hS.2.2⟩ (lh_ad hl (fun v hv => av_nok hls v hv)) (by omega) (by omega)
  · rw [ew, ← List.append_assoc, ← List.append_assoc, List.append_assoc (wsl cy dv ad μ nn) E F9]
    refine (hP.kept hk2).app (fun k x hx => ?_)
    have hz : k < 1 := (List.getElem?_eq_some_iff.mp hx).1
    rw [show k = 0 by omega] at hx
    cases hx
    show H1[H.size]? = some (vp_cell _ _)
    rw [vp_cell_q]
    exact e1
  · rw [ew, ← List.append_assoc, ← List.append_assoc, List.append_assoc (wsl cy dv ad μ nn) E F9]
    exact hD.push hP rfl (c15 _ hS.1)
theorem gl_aastore {N b k : Nat} {x : Int} {n : Nat} {f : Nat → Option Nat} {fs : List Value} (hd : decode y.2.1 pc = .ok (.aastore, 1)) (hk : G9[k]? = some (ad b, .inr (15, fs))) (hx : x = (n : Int)) (hn : n < N) (hN : N < 2147483648)
    (K : gl D cy X0 nn ad (paC cy N (ad 402) (va_up f n (some (ad b))) :: G9) d kc ks y PQ PX (pc + 1) ls st μ) : gl D cy X0 nn ad (paC cy N (ad 402) f :: G9) d kc ks y PQ PX pc ls (.ref b :: .int (iI x) :: .ref 402 :: st) μ := by
  intro p l e R s m args below meth c mc ms hc ho H locs cells slots lsA dv hw hS hl h1 h2
  obtain ⟨c1, c2, c3, c4, c5, c6, c7, c8, c9, c10, c11⟩ := id hc
  obtain ⟨hR, E, hE, hP, hD⟩ := hw
  rw [← List.append_assoc] at hP hD
  subst hx
  have hK := c8.1
  have hin := iI_in hn hN
  have hcl : (iI (n : Int)).toNatClampNeg = n := iI_clamp (by omega)
  have hlt : (iI (n : Int)).toNatClampNeg < N := Nat.not_le.mp fun q => hin (Or.inr q)
  have h0 : ¬ (iI (n : Int)) < 0 := fun q => hin (Or.inl q)
  have ha : ((wsl cy dv ad μ nn ++ E) ++ (paC cy N (ad 402) f :: G9))[(wsl cy dv ad μ nn ++ E).length]? = some (ad 402, .inl (cy 4, N, .inr (.inr (.inr (.inr f))))) := ap_mid
  have hb : ((wsl cy dv ad μ nn ++ E) ++ (paC cy N (ad 402) f :: G9))[(wsl cy dv ad μ nn ++ E).length + (k + 1)]? = some (ad b, .inr (15, fs)) := by
    rw [List.getElem?_append_right (by omega), Nat.add_sub_cancel_left, List.getElem?_cons_succ]
    exact hk
  obtain ⟨r', hr', cellV, g1, g2, g3, -⟩ := hP _ _ hb
  have hcls := (hK.1 15 (RX11, TX11, 33) rfl).2
  obtain ⟨kA, comp, k1, k2, k3, -⟩ := (hK.2 4 (cy 4, .object "BarberParliamentLaw$Own") rfl).2
  have hcomp : comp = D.1 15 := Option.some.inj (k3.symm.trans hcls.1)
  subst hcomp
  obtain ⟨kC, hkC, -⟩ := hcls.2
  have hcA := hP _ _ ha
  have est : (Value.ref b :: .int (iI (n : Int)) :: .ref 402 :: st).map (av_l ad) = Value.ref (ad b) :: .int (iI (n : Int)) :: .ref (ad 402) :: st.map (av_l ad) := rfl
  rw [est]
  refine W.aast (a := ad 402) (v := ad b) c1 c2 hcA (fun q h => by cases h) (fun h => by cases h) k1 k2 rfl hkC ⟨h0, by show _ < (arrV _ _ _).slots.size; rw [arrV_size]; exact hlt⟩ g1 (fun q h => by rw [g3] at h; cases h) (by rw [g2]; exact hkC) (by rw [g2]; exact va_assign hcls) rfl rfl hd fun H1 e z oq => ?_
  have hc1 : H1[ad 402]? = some (vp_cell (cy 4) (N, .inr (.inr (.inr (.inr (va_up f n (some (ad b)))))))) := by
    rw [e, vp_cell_q, vp_cell_q, arrV_store, hcl]
    congr 2
    funext q
    by_cases hq : q = n
    · subst hq
      simp [updV, va_up, va_rf]
    · simp [updV, va_up, hq]
  have hP1 := hP.set (e := .inl (cy 4, N, .inr (.inr (.inr (.inr (va_up f n (some (ad b)))))))) hD ha hc1 oq
  have hD1 := hD.set (e := .inl (cy 4, N, .inr (.inr (.inr (.inr (va_up f n (some (ad b)))))))) ha
  rw [ap_mids, List.append_assoc] at hP1 hD1
  exact gl_use K hc ho ⟨hR, E, hE, hP1, hD1⟩ (hS.put z oq (hD.2 _ _ ha)) hl h1 h2
theorem gl_aaload {x : Int} {N n a9 : Nat} {f : Nat → Option Nat} (hd : decode y.2.1 pc = .ok (.aaload, 1)) (hx : x = (n : Int)) (hn : n < N) (hN : N < 2147483648) (hf : f n = some a9) (h293 : nn ≤ 293) (hls : nok 404 ls) (hst : nok 404 st)
    (K : gl D cy X0 nn (ad1 ad 404 a9) (paC cy N (ad 402) f :: G9) d kc ks y PQ PX (pc + 1) ls (.ref 404 :: st) μ) : gl D cy X0 nn ad (paC cy N (ad 402) f :: G9) d kc ks y PQ PX pc ls (.int (iI x) :: .ref 402 :: st) μ := by
  intro p l e R s m args below meth c mc ms hc ho H locs cells slots lsA dv hw hS hl h1 h2
  subst hx
  obtain ⟨c1, c2, c3, c4, c5, c6, c7, c8, c9, c10, c11⟩ := id hc
  obtain ⟨hR, E, hE, hP, hD⟩ := id hw
  have ha : (wsl cy dv ad μ nn ++ (E ++ (paC cy N (ad 402) f :: G9)))[(wsl cy dv ad μ nn ++ E).length]? = some (paC cy N (ad 402) f) := by rw [← List.append_assoc]; exact ap_mid
  refine va_aldq c1 c2 c8.1 hP _ 4 ha rfl (iI_in hn hN) hd ?_
  rw [iI_clamp (by omega), hf]
  have hs : ∀ k, k ≠ 404 → ad1 ad 404 a9 k = ad k := fun k hk => ad1_n hk
  have ew : wsl cy dv (ad1 ad 404 a9) μ nn = wsl cy dv ad μ nn := wsl_ad (fun k hk => hs k (by omega)) (fun k hk q hq => hs q (by
    have h8 := ref_293 k (by omega) (some q) hq
    have h9 : q < 293 ∨ 400 ≤ q := h8
    have h10 := ref_5000 k (by omega) (some q) hq
    have h11 : q < 400 ∨ 5000 ≤ q := h10
    omega))
  have hc1 := cx_ad (ad' := ad1 ad 404 a9) hc ⟨hs _ (by decide), hs _ (by decide), hs _ (by decide)⟩ (fun k hk => hs k (by omega))
  have hm : Value.ref a9 :: st.map (av_l ad) = (Value.ref 404 :: st).map (av_l (ad1 ad 404 a9)) := by
    show _ = Value.ref (ad1 ad 404 a9 404) :: st.map (av_l (ad1 ad 404 a9))
    rw [ad1_s, List.map_congr_left (fun v hv => av_nok hst v hv)]
  show W p l e R s m args below meth c H locs cells slots _ (F0 m (pc + 1) lsA (Value.ref a9 :: st.map (av_l ad)))
  rw [hm]
  exact gl_use (dv := dv) K hc1 ho ⟨hR, E, sbx_ad hE (hs _ (by decide)) (hs _ (by decide)), by rw [ew]; exact hP, by rw [ew]; exact hD⟩ hS (lh_ad hl (fun v hv => av_nok hls v hv)) h1 h2
/-- the law says yes -/
theorem gl_yes (hd : decode y.2.1 pc = .ok (.ireturn, 1)) (hr : y.2.2.2.1 = some .boolean) : gl D cy X0 nn ad F9 d kc ks y (lwQ X0) PX pc ls [.int (iI 1)] μ := by
  intro p l e R s m args below meth c mc ms hc ho H locs cells slots lsA dv hw hS hl h1 h2
  obtain ⟨c1, c2, c3, c4, c5, c6, c7, c8, c9, c10, c11⟩ := hc
  refine W.widen (k := mc) (n := ms) (by omega) (by omega) (vx_ret ?_)
  exact W.zret (v := iI 1) c1 c2 (c3.trans hr) (by decide) (fun t ht hW => ⟨rfl, hS.F ht⟩) hS.2.2 hd c7
end GlPast
