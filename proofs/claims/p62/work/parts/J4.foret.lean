/-! A FORECAST: the method and its call -/
theorem wsl_s {cy : Nat → ClassId} {dv : UInt64} {ad : Nat → Nat} {μ : Mem} {m n : Nat} : wsl cy dv ad μ (m + n) = wsl cy dv ad μ m ++ (List.range' m n).map (fun k => (ad k, ent cy dv ad μ k)) := by
  unfold wsl
  have e3 : List.range' 0 (m + n) = List.range' 0 m ++ List.range' m n := by have := List.range'_append_1 (s := 0) (m := m) (n := n); rw [Nat.zero_add] at this; exact this.symm
  rw [List.range_eq_range', List.range_eq_range', e3, List.map_append]
/-- a world of more objects, cut -/
theorem wd_cut {D : va_G} {cy : Nat → ClassId} {X0 : Nat → Prop} {m n : Nat} {ad ad' : Nat → Nat} {dv : UInt64} {μ : Mem} {H : Heap} (h : wd D cy (m + n) ad' dv μ X0 H) (h276 : 276 ≤ m) (hw : wsl cy dv ad' μ m = wsl cy dv ad μ m) (e0 : ad' 5000 = ad 5000) (e1 : ad' 5001 = ad 5001) : wd D cy m ad dv μ X0 H := by
  obtain ⟨hR, E, hE, hP, hD⟩ := h
  rw [wsl_s, hw, List.append_assoc] at hP hD
  have hp : (wsl cy dv ad μ m ++ ((List.range' m n).map (fun k => (ad' k, ent cy dv ad' μ k)) ++ E)).Perm ((wsl cy dv ad μ m ++ E) ++ (List.range' m n).map (fun k => (ad' k, ent cy dv ad' μ k))) := by
    rw [List.append_assoc]
    exact List.Perm.append_left _ List.perm_append_comm
  have hE2 := sbx_ad (ad' := ad) hE e0.symm e1.symm
  refine ⟨hR, E, ?_, P_l (va_P_perm hp hP), D_l (va_D_perm hp hD)⟩
  rcases hE2 with ⟨g, -⟩ | ⟨-, w⟩
  · omega
  · exact Or.inr ⟨h276, w⟩
def ftQ (D : va_G) (cy : Nat → ClassId) (X0 : Nat → Prop) (ad : Nat → Nat) (μ S σ : Mem) : Array Value → State → Outcome → State → Prop := fun _ st oc t =>
  (∃ (μ' : Mem) (dv' : UInt64), oc = .returned (some (.int (iI 1))) ∧ FI S σ μ' ∧ (∀ a j, a < 41 ∨ (62 ≤ a ∧ a < 293) → μ' a j = μ a j) ∧ wd D cy 293 ad dv' μ' X0 t.heap) ∧ va_F X0 st t
section Fore
variable {S σ : Mem} {T : Int} {D : va_G} {cy : Nat → ClassId} {X0 : Nat → Prop} {ad : Nat → Nat} {μ : Mem}
set_option maxRecDepth 8000 in
theorem ft_body (hS : wfS S) (hC : wfC S σ) (hZ : zro S σ) (hL : lim S σ (4 * T)) (h5 : 0 ≤ σ 0 5 ∧ σ 0 5 ≤ T) (hT : T ≤ 100000) {q mi : Nat} (hq : (q : Int) ≤ σ 5 0) (hmi : mi < 301) (hF : FI S σ μ) :
    gl D cy X0 293 ad [] 8 18 394 mL_isForetold (ftQ D cy X0 ad μ S σ) noX 0 [.ref 0, .ref 276, .int (iI (q : Nat)), .int (iI (mi : Nat)), .null, .null, .null, .null, .null] [] μ := by
  refine gl_bipush (y := mL_isForetold) (pc := 0) dL_isForetold_0 (by decide) ?_
  refine gl_newI (y := mL_isForetold) (pc := 2) (N := 12) (kc := 17) (ks := 382) dL_isForetold_2 rfl (by decide) (by decide) (nok_ref (by decide) (nok_ref (by decide) (nok_int (nok_int (nok_null (nok_null (nok_null (nok_null (nok_null nok_nil))))))))) nok_nil (fun a => ?_)
  refine gl_astore (y := mL_isForetold) (pc := 4) dL_isForetold_4 (by decide) ?_
  refine gl_iconst (y := mL_isForetold) (pc := 6) dL_isForetold_6 ?_
  refine gl_istore (y := mL_isForetold) (pc := 7) dL_isForetold_7 (by decide) ?_
  refine gl_aload_n (y := mL_isForetold) (pc := 9) dL_isForetold_9 rfl rfl ?_
  refine gl_copy (y := mL_isForetold) (pc := 10) (kc2 := 0) (ks2 := 0) dL_isForetold_10 ml_L_252 (okn_ref (by decide) (okn_ref (by decide) (okn_int (okn_int (okn_ref (by decide) (okn_int (okn_null (okn_null (okn_null okn_nil))))))))) okn_nil (by decide) (by decide) (by decide) (by decide) (fun ad2 ω' had hcp => ?_)
  refine gl_astore (y := mL_isForetold) (pc := 13) dL_isForetold_13 (by decide) ?_
  have h401 : ad2 401 = a := (had 401 (by decide)).trans ad1_s
  obtain ⟨μ3, hμ3⟩ : ∃ μ3 : Mem, μ3 = fun b j => if b = 310 then 0 else ow 293 ω' μ b j := ⟨_, rfl⟩
  have m3o (b j : Nat) (h : b ≠ 310) : μ3 b j = ow 293 ω' μ b j := by rw [hμ3]; exact if_neg h
  have m3z (j : Nat) : μ3 310 j = 0 := by rw [hμ3]; exact if_pos rfl
  have m3b (b j : Nat) (h : b < 293) : μ3 b j = μ b j := (m3o b j (by omega)).trans (ow_o (by omega))
  refine gl_go (y := mL_isForetold) (pc := 15) (n3 := 311) (ad' := ad1 ad2 310 a) (ls' := [.ref 0, .ref 276, .int (iI (q : Nat)), .int (iI (mi : Nat)), .ref 310, .int (iI (-1)), .ref 293, .null, .null]) (st' := []) (μ' := μ3) (Q := fun r ν' => r = some (.int (iI 1)) ∧ FI S σ ν' ∧ (∀ a j, a < 41 ∨ (62 ≤ a ∧ a < 293) → ν' a j = μ3 a j)) ⟨by decide, by decide⟩ (fun k hk => ad1_n (by omega)) ?_ rfl (fun b j hb => (m3o b j (by omega))) (fun hR b j => ?_) (fun dv E => ?_) (by decide) (fun a9 st o t hq9 => ?_) (fun E9 st t hq9 => ?_) ?_
  · show [Value.ref _, Value.ref _, _, _, Value.ref _, _, Value.ref _, _, _] = [Value.ref _, Value.ref _, _, _, Value.ref _, _, Value.ref _, _, _]
    rw [ad1_n (show (0 : Nat) ≠ 310 by decide), ad1_n (show (276 : Nat) ≠ 310 by decide), ad1_s, ad1_n (show (293 : Nat) ≠ 310 by decide), h401]
    rfl
  · by_cases e : b = 310
    · rw [e, m3z]; exact rng0
    · rw [m3o b j e]; exact hR b j
  · have ew : wsl cy dv (ad1 ad2 310 a) μ3 310 = wsl cy dv ad2 (ow 293 ω' μ) 310 := by
      rw [wsl_ad (ad := ad2) (fun k hk => ad1_n (by omega)) (fun k hk q hq => ad1_n (fun w => by have := ref_310 k hk (some q) hq; have h9 : q < 310 ∨ 400 ≤ q := this; omega))]
      exact wsl_off (fun b j hb => m3o b j (by omega))
    have es := wsl_s (cy := cy) (dv := dv) (ad := ad1 ad2 310 a) (μ := μ3) (m := 310) (n := 1)
    have e1 : (List.range' 310 1).map (fun k => (ad1 ad2 310 a k, ent cy dv (ad1 ad2 310 a) μ3 k)) = [(a, .inl (cy 0, 12, .inl (fun _ => iI 0)))] := by
      show [(ad1 ad2 310 a 310, ent cy dv (ad1 ad2 310 a) μ3 310)] = _
      rw [ad1_s, ent_1 (show shp 310 = (1, 12, []) from rfl), show (fun j => iI (μ3 310 j)) = fun _ => iI 0 from funext (fun j => by rw [m3z])]
    rw [ew, e1] at es
    rw [es, List.append_assoc]
    exact List.Perm.append_left _ (by rw [List.nil_append]; exact List.perm_append_comm)
  · obtain ⟨⟨r, ν', dv', hv, ⟨h1, h2, h3⟩, hw⟩, hFF⟩ := hq9
    subst h1
    refine ⟨⟨ν', dv', hv, h2, fun b j hb => (h3 b j hb).trans (m3b b j (by omega)), ?_⟩, hFF⟩
    have hag : ∀ k, k < 293 ∨ 5000 ≤ k → ad1 ad2 310 a k = ad k := fun k hk => (ad1_n (by omega)).trans ((had k (by omega)).trans (ad1_n (by omega)))
    refine wd_cut (n := 18) hw (by decide) (wsl_ad (fun k hk => hag k (Or.inl hk)) (fun k hk q hq => hag q ?_)) (hag _ (by decide)) (hag _ (by decide))
    have h8 := ref_293 k hk (some q) hq
    have h9 : q < 293 ∨ 400 ≤ q := h8
    have h10 := ref_5000 k hk (some q) hq
    have h11 : q < 400 ∨ 5000 ≤ q := h10
    omega
  · obtain ⟨⟨ν', dv', w, -⟩, -⟩ := hq9
    exact w.elim
  · refine l_foretold hS hC hZ hL h5 hT hq hmi (ν := μ3) ⟨?_, ?_, ?_⟩ ?_ (fun m _ => m3z m) (fun ν' h1 h2 => ⟨rfl, h1, h2⟩)
    · rw [← hF.1]
      funext r j
      unfold su
      split
      · exact m3b _ _ (by omega)
      · rfl
    · exact eqC_tr (eqC_of (fun r j hr => m3b _ _ (by omega))) hF.2.1
    · exact own_cg hF.2.2 (fun r j hr => m3b _ _ (by omega))
    · exact own_cg (own_cp hS hC hF.2.2 hcp) (fun r j hr => (m3o _ _ (by omega)).trans (ow_r hr))
end Fore
