/-! THE LAW'S OWNS: kept aside, taken back -/
theorem ow_ow6 {ω ω' μ : Mem} : ow 276 ω (ow 276 ω' μ) = ow 276 ω μ := by
  funext b j
  unfold ow
  split <;> rfl
theorem ow_vw6 {μ : Mem} : ow 276 (vw 276 μ) μ = μ := ow_v 276 μ
def adK (ad : Nat → Nat) : Nat → Nat := fun k => if k = 403 then ad 276 else if 276 ≤ k ∧ k < 293 then ad (k + 17) else ad k
def adT (B ad : Nat → Nat) : Nat → Nat := fun k => if 276 ≤ k ∧ k < 293 then B k else ad k
theorem adK_o {ad : Nat → Nat} {k : Nat} (h : k ≠ 403) (h2 : k < 276 ∨ 293 ≤ k) : adK ad k = ad k := by
  unfold adK
  rw [if_neg h, if_neg (by omega)]
theorem adT_o {B ad : Nat → Nat} {k : Nat} (h2 : k < 276 ∨ 293 ≤ k) : adT B ad k = ad k := by
  unfold adT
  rw [if_neg (by omega)]
theorem wsl_276 {cy : Nat → ClassId} {dv : UInt64} {ad ad' : Nat → Nat} {μ μ' : Mem} (h : ∀ k, k < 276 ∨ 5000 ≤ k → ad' k = ad k) (hm : ∀ b j, b < 276 → μ' b j = μ b j) : wsl cy dv ad' μ' 276 = wsl cy dv ad μ 276 := by
  rw [wsl_ad (ad := ad) (fun k hk => h k (Or.inl hk)) (fun k hk q hq => h q ?_)]
  · exact wsl_off hm
  · have h8 := ref_276 k hk (some q) hq
    have h9 : q < 276 ∨ 400 ≤ q := h8
    have h10 := ref_5000 k (by omega) (some q) hq
    have h11 : q < 400 ∨ 5000 ≤ q := h10
    omega
theorem celO_0 {cy : Nat → ClassId} {A : Nat → Nat} {ω : Mem} {G : va_W} : ∃ fs, (celO cy A ω ++ G)[0]? = some (A 276, .inr (15, fs)) := by
  refine ⟨flv A (ow 276 ω zO) 276 0 (own_shp 276 0).2.2, ?_⟩
  have h1 := ow_sh (c := 276) (Or.inl rfl) 0 (by decide)
  show some (A 276, ent cy 0 A (ow 276 ω zO) 276) = _
  rw [ent_0 (h1.trans (show own_shp 276 0 = (0, 15, (own_shp 276 0).2.2) from rfl))]
section GlOwn
variable {D : va_G} {cy : Nat → ClassId} {X0 : Nat → Prop} {nn : Nat} {ad : Nat → Nat} {F9 G : va_W} {d kc ks : Nat} {y : MI} {PQ : Array Value → State → Outcome → State → Prop} {PX : String → State → State → Prop} {pc : Nat} {ls st ls' st' : List Value} {μ : Mem}
theorem gl_rng (K : (∀ a i, rng (μ a i)) → gl D cy X0 nn ad F9 d kc ks y PQ PX pc ls st μ) : gl D cy X0 nn ad F9 d kc ks y PQ PX pc ls st μ := by
  intro p l e R s m args below meth c mc ms hc ho H locs cells slots lsA dv hw hS hl h1 h2
  exact gl_use (K hw.1) hc ho hw hS hl h1 h2
/-- a local may be forgotten -/
theorem gl_null (i : Nat) (K : gl D cy X0 nn ad F9 d kc ks y PQ PX pc (ls.set i .null) st μ) : gl D cy X0 nn ad F9 d kc ks y PQ PX pc ls st μ := by
  intro p l e R s m args below meth c mc ms hc ho H locs cells slots lsA dv hw hS hl h1 h2
  refine gl_use K hc ho hw hS ?_ h1 h2
  obtain ⟨g1, g2, g3, g4, g5⟩ := hl
  refine ⟨g1, g2, fun v hv => ?_, by rw [List.length_set]; exact g4, fun j v hj hn => ?_⟩
  · rcases List.mem_or_eq_of_mem_set hv with h | h
    · exact g3 v h
    · rw [h]; rfl
  · rw [List.getElem?_set] at hj
    split at hj
    · split at hj
      · cases hj; exact absurd rfl hn
      · cases hj
    · exact g5 j v hj hn
theorem gl_less {kc' ks' : Nat} (h1 : kc' ≤ kc) (h2 : ks' ≤ ks) (K : gl D cy X0 nn ad F9 d kc' ks' y PQ PX pc ls st μ) : gl D cy X0 nn ad F9 d kc ks y PQ PX pc ls st μ := by
  intro p l e R s m args below meth c mc ms hc ho H locs cells slots lsA dv hw hS hl g1 g2
  exact gl_use K hc ho hw hS hl (by omega) (by omega)
/-- the new Own becomes 276, the one before is kept aside, its number 403 -/
theorem gl_keep {p : Nat × va_E} {ω' : Mem} (hμ : ∀ a i, rng (μ a i)) (hls : ls'.map (av_l (adK ad)) = ls.map (av_l ad)) (hst : st'.map (av_l (adK ad)) = st.map (av_l ad)) (K : gl D cy X0 293 (adK ad) (p :: (celO cy ad (vw 276 μ) ++ G)) d kc ks y PQ PX pc ls' st' (ow 276 ω' μ)) : gl D cy X0 310 ad (p :: G) d kc ks y PQ PX pc ls st (ow 293 ω' μ) := by
  refine gl_ren (n3 := 293) (ad' := adK ad) (F3 := p :: (celO cy ad (vw 276 μ) ++ G)) (ls' := ls') (st' := st') (μ' := ow 276 ω' μ) ⟨by decide, by decide, by decide⟩ (fun k hk => adK_o (by omega) (by omega)) hls hst (fun b j hb => by rw [ow_o (by omega), ow_o (by omega)]) (fun hR a i => ?_) (fun dv E => ⟨[], ?_⟩) K
  · by_cases h : 276 ≤ a ∧ a < 293
    · obtain ⟨r, rfl⟩ : ∃ r, a = 276 + r := ⟨a - 276, by omega⟩
      rw [ow_r (by omega)]
      have := hR (293 + r) i
      rw [ow_r (by omega)] at this
      exact this
    · rw [ow_o (by omega)]
      exact hμ a i
  · have e1 : wsl cy dv ad (ow 293 ω' μ) 310 = (wsl cy dv ad μ 276 ++ celO cy ad (vw 276 μ)) ++ celO cy (fun k => ad (k + 17)) ω' := by
      rw [wsl_310', wsl_293, wsl_276 (ad := ad) (fun k hk => rfl) (fun b j hb => ow_o (by omega)), celO_cg (A' := ad) (ω' := vw 276 (ow 293 ω' μ)) (A := ad) (ω := vw 276 μ) (fun k _ _ => rfl) (fun r j hr => ow_o (by omega)), celO_cg (A' := fun k => ad (k + 17)) (ω' := vw 293 (ow 293 ω' μ)) (ω := ω') (A := fun k => ad (k + 17)) (fun k _ _ => rfl) (fun r j hr => ow_r hr)]
    have e2 : wsl cy dv (adK ad) (ow 276 ω' μ) 293 = wsl cy dv ad μ 276 ++ celO cy (fun k => ad (k + 17)) ω' := by
      rw [wsl_293, wsl_276 (ad := ad) (μ := μ) (fun k hk => adK_o (by omega) (by omega)) (fun b j hb => ow_o (by omega)), celO_cg (A' := adK ad) (ω' := vw 276 (ow 276 ω' μ)) (ω := ω') (A := fun k => ad (k + 17)) (fun k h1 h2 => by unfold adK; rw [if_neg (by omega), if_pos ⟨h1, h2⟩]) (fun r j hr => ow_r hr)]
    rw [e1, e2]
    simp only [List.append_nil, List.append_assoc]
    refine List.Perm.append_left _ ?_
    refine List.perm_append_comm_assoc _ _ _ |>.trans ?_
    refine List.Perm.append_left _ ?_
    refine List.perm_append_comm_assoc _ _ _ |>.trans ?_
    exact List.Perm.append_left _ List.perm_middle
/-- a kept Own becomes 276, the one that was is forgotten -/
theorem gl_take {p : Nat × va_E} {B : Nat → Nat} {ω : Mem} (hω : ∀ r j, rng (ω r j)) (hls : ls'.map (av_l (adT B ad)) = ls.map (av_l ad)) (hst : st'.map (av_l (adT B ad)) = st.map (av_l ad)) (K : gl D cy X0 293 (adT B ad) (p :: G) d kc ks y PQ PX pc ls' st' (ow 276 ω μ)) : gl D cy X0 293 ad (p :: (celO cy B ω ++ G)) d kc ks y PQ PX pc ls st μ := by
  refine gl_ren (n3 := 293) (ad' := adT B ad) (F3 := p :: G) (ls' := ls') (st' := st') (μ' := ow 276 ω μ) ⟨by decide, by decide, by decide⟩ (fun k hk => adT_o (by omega)) hls hst (fun b j hb => ow_o (by omega)) (fun hR a i => ?_) (fun dv E => ⟨celO cy ad (vw 276 μ), ?_⟩) K
  · by_cases h : 276 ≤ a ∧ a < 293
    · obtain ⟨r, rfl⟩ : ∃ r, a = 276 + r := ⟨a - 276, by omega⟩
      rw [ow_r (by omega)]
      exact hω r i
    · rw [ow_o (by omega)]
      exact hR a i
  · have e2 : wsl cy dv (adT B ad) (ow 276 ω μ) 293 = wsl cy dv ad μ 276 ++ celO cy B ω := by
      rw [wsl_293, wsl_276 (ad := ad) (μ := μ) (fun k hk => adT_o (by omega)) (fun b j hb => ow_o (by omega)), celO_cg (A' := adT B ad) (ω' := vw 276 (ow 276 ω μ)) (ω := ω) (A := B) (fun k h1 h2 => by unfold adT; rw [if_pos ⟨h1, h2⟩]) (fun r j hr => ow_r hr)]
    rw [e2, wsl_293]
    simp only [List.append_assoc]
    refine List.Perm.append_left _ ?_
    refine List.perm_append_comm.trans ?_
    simp only [List.append_assoc, List.cons_append]
    refine (List.Perm.append_left _ List.perm_middle.symm).trans ?_
    exact List.perm_append_comm_assoc _ _ _
end GlOwn
