/-! NUMBERS ANEW: an Own put aside, and taken back -/
/-- the cells of an Own whose numbers 276 .. 292 lie at A, its numbers and rows ω -/
def celO (cy : Nat → ClassId) (A : Nat → Nat) (ω : Mem) : va_W := (List.range' 276 17).map (fun k => (A k, ent cy 0 A (ow 276 ω zO) k))
theorem ent_dv {cy : Nat → ClassId} {dv dv' : UInt64} {ad : Nat → Nat} {μ : Mem} {k : Nat} : ent cy dv ad μ k = ent cy dv' ad μ k := by unfold ent; rfl
theorem ref_own : ∀ c ∈ [276, 293], ∀ r < 17, ∀ q ∈ (own_shp c r).2.2, c ≤ q.getD c ∧ q.getD c < c + 17 := by decide +kernel
theorem own_sh17 : ∀ r < 17, own_shp 293 r = ((own_shp 276 r).1, (own_shp 276 r).2.1, (own_shp 276 r).2.2.map (fun o => o.map (fun q => q + 17))) := by decide +kernel
theorem own_k : ∀ r < 17, (own_shp 276 r).1 = 0 ∨ (own_shp 276 r).1 = 1 ∨ (own_shp 276 r).1 = 2 := by decide +kernel
theorem celO_cg {cy : Nat → ClassId} {A A' : Nat → Nat} {ω ω' : Mem} (h : ∀ k, 276 ≤ k → k < 293 → A' k = A k) (e : ∀ r j, r < 17 → ω' r j = ω r j) : celO cy A' ω' = celO cy A ω := by
  unfold celO
  apply List.map_congr_left
  intro k hk
  have hk := List.mem_range'_1.mp hk
  rw [h k hk.1 (by omega), ent_ad (ad := A) (fun q hq => ?_), ent_off (μ := ow 276 ω zO) (fun j => ?_)]
  · rw [show k = 276 + (k - 276) by omega, ow_r (by omega), ow_r (by omega)]
    exact e _ _ (by omega)
  · have h1 := ow_sh (c := 276) (Or.inl rfl) (k - 276) (by omega)
    rw [show 276 + (k - 276) = k by omega] at h1
    rw [h1] at hq
    have h2 : 276 ≤ q ∧ q < 276 + 17 := ref_own 276 (by decide) (k - 276) (by omega) (some q) hq
    exact h q h2.1 (by omega)
theorem wsl_293 {cy : Nat → ClassId} {dv : UInt64} {ad : Nat → Nat} {μ : Mem} : wsl cy dv ad μ 293 = wsl cy dv ad μ 276 ++ celO cy ad (vw 276 μ) := by
  have h := wsl_s (cy := cy) (dv := dv) (ad := ad) (μ := μ) (m := 276) (n := 17)
  rw [h]
  refine congrArg (fun z => wsl cy dv ad μ 276 ++ z) ?_
  unfold celO
  apply List.map_congr_left
  intro k hk
  have hk := List.mem_range'_1.mp hk
  rw [ent_dv (dv' := 0), ent_off (μ := ow 276 (vw 276 μ) zO) (μ' := μ) (fun j => ?_)]
  rw [show k = 276 + (k - 276) by omega, ow_r (by omega)]
  rfl
theorem flv_17 {ad : Nat → Nat} {μ μ' : Mem} {k k' : Nat} (hμ : ∀ j, μ' k' j = μ k j) : ∀ (fs : List (Option Nat)) (i : Nat), flv (fun q => ad (q + 17)) μ' k' i fs = flv ad μ k i (fs.map (fun o => o.map (fun q => q + 17)))
  | [], _ => rfl
  | none :: r, i => by
    simp only [List.map_cons, Option.map_none, flv]
    rw [hμ i, flv_17 hμ r (i + 1)]
  | some q :: r, i => by
    simp only [List.map_cons, Option.map_some, flv]
    rw [flv_17 hμ r (i + 1)]
theorem ent_17 {cy : Nat → ClassId} {dv : UInt64} {ad : Nat → Nat} {μ μ' : Mem} {r : Nat} (hr : r < 17) (hμ : ∀ j, μ' (276 + r) j = μ (293 + r) j) : ent cy 0 (fun q => ad (q + 17)) μ' (276 + r) = ent cy dv ad μ (293 + r) := by
  have h1 := ow_sh (c := 276) (Or.inl rfl) r hr
  have h2 := ow_sh (c := 293) (Or.inr rfl) r hr
  rw [own_sh17 r hr] at h2
  have hk : (own_shp 276 r).1 = 0 ∨ (own_shp 276 r).1 = 1 ∨ (own_shp 276 r).1 = 2 := own_k r hr
  have hm : (fun j => iI (μ' (276 + r) j)) = fun j => iI (μ (293 + r) j) := funext (fun j => by rw [hμ j])
  rcases hk with g | g | g
  · rw [ent_0 (h1.trans (show own_shp 276 r = (0, (own_shp 276 r).2.1, (own_shp 276 r).2.2) by rw [← g])), ent_0 (h2.trans (by rw [g])), flv_17 hμ]
  · rw [ent_1 (h1.trans (show own_shp 276 r = (1, (own_shp 276 r).2.1, (own_shp 276 r).2.2) by rw [← g])), ent_1 (h2.trans (by rw [g])), hm]
  · rw [ent_2 (h1.trans (show own_shp 276 r = (2, (own_shp 276 r).2.1, (own_shp 276 r).2.2) by rw [← g])), ent_2 (h2.trans (by rw [g])), hm]
theorem wsl_310' {cy : Nat → ClassId} {dv : UInt64} {ad : Nat → Nat} {μ : Mem} : wsl cy dv ad μ 310 = wsl cy dv ad μ 293 ++ celO cy (fun k => ad (k + 17)) (vw 293 μ) := by
  have h := wsl_s (cy := cy) (dv := dv) (ad := ad) (μ := μ) (m := 293) (n := 17)
  rw [h]
  refine congrArg (fun z => wsl cy dv ad μ 293 ++ z) ?_
  unfold celO
  rw [List.range'_eq_map_range, List.range'_eq_map_range, List.map_map, List.map_map]
  apply List.map_congr_left
  intro r hr
  have hr := List.mem_range.mp hr
  show (ad (293 + r), ent cy dv ad μ (293 + r)) = (ad (276 + r + 17), ent cy 0 (fun k => ad (k + 17)) (ow 276 (vw 293 μ) zO) (276 + r))
  rw [ent_17 (dv := dv) (μ := μ) hr (fun j => by rw [ow_r hr]; rfl), show 276 + r + 17 = 293 + r by omega]
section GlRen
variable {D : va_G} {cy : Nat → ClassId} {X0 : Nat → Prop} {nn : Nat} {ad : Nat → Nat} {F9 : va_W} {d kc ks : Nat} {y : MI} {PQ : Array Value → State → Outcome → State → Prop} {PX : String → State → State → Prop} {pc : Nat} {ls st : List Value} {μ : Mem}
/-- the same cells under other numbers; some may be forgotten -/
theorem gl_ren {n3 : Nat} {ad' : Nat → Nat} {F3 : va_W} {ls' st' : List Value} {μ' : Mem} (hn : 276 ≤ nn ∧ 276 ≤ n3 ∧ n3 ≤ 400) (e6 : ∀ k, 5000 ≤ k → ad' k = ad k) (hls : ls'.map (av_l ad') = ls.map (av_l ad)) (hst : st'.map (av_l ad') = st.map (av_l ad)) (hμ : ∀ b j, 5000 ≤ b → μ' b j = μ b j) (hR : (∀ a i, rng (μ a i)) → ∀ a i, rng (μ' a i))
    (hp : ∀ dv E, ∃ G, (wsl cy dv ad μ nn ++ (E ++ F9)).Perm ((wsl cy dv ad' μ' n3 ++ (E ++ F3)) ++ G)) (K : gl D cy X0 n3 ad' F3 d kc ks y PQ PX pc ls' st' μ') : gl D cy X0 nn ad F9 d kc ks y PQ PX pc ls st μ := by
  intro p l e R s m args below meth c mc ms hc ho H locs cells slots lsA dv hw hS hl h1 h2
  obtain ⟨hR0, E, hE, hP, hD⟩ := hw
  have hc1 := cx_ad (ad' := ad') hc ⟨e6 _ (by decide), e6 _ (by decide), e6 _ (by decide)⟩ (fun k hk => e6 k (by omega))
  obtain ⟨b1, b2, b3, b4, b5, b6, b7, b8, b9, b10, b11, b12, b13, b14, b15, b16, b17, b18, b19⟩ := hc1
  have hE1 : sbx cy ad' μ' n3 E := by
    have hE0 := sbx_ad hE (e6 5000 (by decide)) (e6 5001 (by decide))
    rcases hE0 with ⟨g, -⟩ | ⟨-, sa, ml, e9, a1, a2, a3, a4⟩
    · omega
    · refine Or.inr ⟨by omega, sa, ml, ?_, ?_, ?_, ?_, fun j => ?_⟩
      · rw [hμ 5000 0 (by decide), hμ 5002 0 (by decide), show (fun j => iI (μ' 5001 j)) = fun j => iI (μ 5001 j) from funext (fun j => by rw [hμ 5001 j (by decide)])]
        exact e9
      · rw [hμ 5003 0 (by decide)]; exact a1
      · rw [hμ 5000 0 (by decide), hμ 5002 0 (by decide)]; exact a2
      · rw [hμ 5002 0 (by decide)]; exact a3
      · rw [hμ 5001 j (by decide)]; exact a4 j
  obtain ⟨G, hp⟩ := hp dv E
  have h := gl_use K ⟨b1, b2, b3, b4, b5, b6, b7, b8, Nat.le_refl _, hn.2.2, b11, b12, b13, b14, b15, b16, b17, b18, b19⟩ ho (dv := dv) ⟨hR hR0, E, hE1, P_l (va_P_perm hp hP), D_l (va_D_perm hp hD)⟩ hS (lh_map hl hls) h1 h2 (e := e) (below := below)
  rw [hst] at h
  exact h
end GlRen
