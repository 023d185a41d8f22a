/-! BEGINS as a method; the law from where both are made -/
/-- what begins finds -/
def BG (μ : Mem) : Prop := wfT μ ∧ μ 1 1 = 0 ∧ (∃ n : Nat, n < 8 ∧ μ 62 1 = (n : Int)) ∧ ∀ b j, 276 ≤ b → b < 293 → μ b j = 0
section Law5
variable {D : va_G} {cy : Nat → ClassId} {X0 : Nat → Prop} {ad : Nat → Nat} {PX : String → State → State → Prop} {L : Nat} {xs : Nat → Int32}
theorem gl_dmono {nn d d2 kc ks pc : Nat} {F9 : va_W} {y : MI} {PQ : Array Value → State → Outcome → State → Prop} {ls st : List Value} {μ : Mem} (h : d ≤ d2) (K : gl D cy X0 nn ad F9 d kc ks y PQ PX pc ls st μ) : gl D cy X0 nn ad F9 d2 kc ks y PQ PX pc ls st μ := by
  intro p l e R s m args below meth c mc ms hc ho H locs cells slots lsA dv hw hS hl h1 h2
  obtain ⟨c1, c2, c3, c4, c5, c6, c7, c8, c9, c10, c11, c12, c13, c14, c15, c16, c17, c18, c19⟩ := hc
  exact gl_use K ⟨c1, c2, c3, c4, c5, c6, c7, c8, c9, c10, by omega, by omega, c13, c14, c15, c16, c17, c18, c19⟩ ho hw hS hl h1 h2
set_option maxRecDepth 8000 in
theorem l_begins (hL : L ≤ 300) {μ : Mem} (hG : BG μ) : gl D cy X0 293 ad [] 10 56 1309 (mL_begins L xs) (cR D cy X0 293 (Rbg ad)) PX 0 [.ref 0, .ref 276, .ref 6000, .null, .null] [] μ := by
  obtain ⟨hT, h11, ⟨n6, hn6, h62⟩, hz⟩ := hG
  refine bg_0 hL (by decide) (fun v0 v1 v2 v3 v4 v5 v6 v7 g0 g1 g2 g3 g4 g5 g6 g7 => ?_)
  obtain ⟨M, eM⟩ : ∃ M, M = wr (wr (wr (wr (wr (wr (wr (wr μ 276 0 (1 + (v0 : Int))) 276 1 (v1)) 276 2 (1 + (v2 : Int))) 276 3 (v3)) 276 4 (2 + (v4 : Int))) 276 5 (v5)) 276 6 (v6)) 276 8 (1 + (v7 : Int)) := ⟨_, rfl⟩
  rw [← eM]
  have a0 : M 276 0 = ((1 + v0 : Nat) : Int) := by rw [eM, wr_ni (by decide), wr_ni (by decide), wr_ni (by decide), wr_ni (by decide), wr_ni (by decide), wr_ni (by decide), wr_ni (by decide), wr_s]; omega
  have a1 : M 276 1 = (v1 : Nat) := by rw [eM, wr_ni (by decide), wr_ni (by decide), wr_ni (by decide), wr_ni (by decide), wr_ni (by decide), wr_ni (by decide), wr_s]
  have a2 : M 276 2 = ((1 + v2 : Nat) : Int) := by rw [eM, wr_ni (by decide), wr_ni (by decide), wr_ni (by decide), wr_ni (by decide), wr_ni (by decide), wr_s]; omega
  have a3 : M 276 3 = (v3 : Nat) := by rw [eM, wr_ni (by decide), wr_ni (by decide), wr_ni (by decide), wr_ni (by decide), wr_s]
  have a4 : M 276 4 = ((2 + v4 : Nat) : Int) := by rw [eM, wr_ni (by decide), wr_ni (by decide), wr_ni (by decide), wr_s]; omega
  have a5 : M 276 5 = (v5 : Nat) := by rw [eM, wr_ni (by decide), wr_ni (by decide), wr_s]
  have a6 : M 276 6 = (v6 : Nat) := by rw [eM, wr_ni (by decide), wr_s]
  have a8 : M 276 8 = ((1 + v7 : Nat) : Int) := by rw [eM, wr_s]; omega
  have az : ∀ j, 7 ≤ j → j ≠ 8 → M 276 j = 0 := fun j h1 h2 => by
    rw [eM, wr_ni h2, wr_ni (by omega), wr_ni (by omega), wr_ni (by omega), wr_ni (by omega), wr_ni (by omega), wr_ni (by omega), wr_ni (by omega)]
    exact hz 276 j (by decide) (by decide)
  have ao : ∀ b j, b ≠ 276 → M b j = μ b j := fun b j hb => by
    rw [eM, wr_na hb, wr_na hb, wr_na hb, wr_na hb, wr_na hb, wr_na hb, wr_na hb, wr_na hb]
  refine gl_less (kc' := 1 + (kB 22 + (48 + 2)) + 1) (ks' := 22 + (sB 22 + (312 + 259)) + 4) (by decide) (by decide) ?_
  refine bg_94 a0 a1 a2 a3 a4 a5 a6 ⟨by omega, by omega, by omega, by omega, by omega, by omega, by omega⟩ (by decide) (fun ad' E μ1 cap hA hE hb => ?_)
  refine bg_192 (μ0 := μ1) (fun μ2 e1 e2 => ?_) 4 0 μ1 rfl (fun b j _ => rfl) (fun j hj => absurd hj (Nat.not_lt_zero _))
  have hb2 : BI (hdT (1 + v0) v1 (1 + v2) v3 (2 + v4) v5 v6) cap μ2 μ2 := BI_wr hb (fun b j h5 => e1 b j (Or.inl (by omega)))
  have q : ∀ b j, b < 5000 → (b ≠ 287 ∨ 4 ≤ j) → μ2 b j = M b j := fun b j h1 h2 => (e1 b j h2).trans (hb.2.1.1 b j h1)
  refine gl_iconst (y := mL_begins L xs) (pc := 212) dL_begins_212 ?_
  refine gl_istore (y := mL_begins L xs) (pc := 213) dL_begins_213 (show (4 : Nat) < 5 by decide) ?_
  refine gl_less (kc' := kB cap + (4 * (1 + v7) + 2)) (ks' := sB cap + (26 * (1 + v7) + 259)) (by omega) (by omega) ?_
  refine bg_215 hL (by decide) (N := 1 + v7) (by omega) hdT_l.2 (ad0 := ad') (μ1 := μ2) ((q 276 8 (by decide) (Or.inl (by decide))).trans a8) (fun ad3 ms μ3 cap3 hlen hok hA3 hb3 hm3 hf3 => ?_) (1 + v7) [] ad' μ2 cap (by show 0 + (1 + v7) = 1 + v7; omega) (fun x hx => by cases hx) (fun j _ => rfl) (by show BI (_ ++ []) cap μ2 μ2; rw [List.append_nil]; exact hb2) (fun i x hi => by cases hi) (fun b j _ _ _ => rfl)
  have r : ∀ b j, b < 5000 → (b < 277 ∨ 280 < b) → (b ≠ 276 ∨ j ≠ 15) → (b ≠ 287 ∨ 4 ≤ j) → μ3 b j = M b j := fun b j h1 h2 h3 h4 => (hf3 b j h1 h2 h3).trans (q b j h1 h4)
  refine bg_382 (ad0 := ad) (kr := kB cap3) (sr := sB cap3) (w0 := 1 + v0) (w1 := v1) (w2 := 1 + v2) (w3 := v3) (w4 := 2 + v4) (w5 := v5) (w6 := v6) (by omega) (ms := ms) (by omega) hok hb3 (fun k hk => (hA3 k (by omega)).trans (hA k hk)) ?_ ?_ hn6 ?_ ?_ (fun j h1 h2 h3 => (r 276 j (by decide) (by decide) (Or.inr (by omega)) (by omega)).trans (az j h1 h3)) hm3 (fun m => ?_) (fun s => ⟨?_, ?_, ?_⟩) (fun h hh => ?_) (fun s => ?_)
  · obtain ⟨t1, t2, t3⟩ := hT
    have t (b j : Nat) (hb : b < 276) : μ3 b j = μ b j := (r b j (by omega) (by omega) (by omega) (by omega)).trans (ao b j (by omega))
    exact ⟨by rw [t 1 1 (by decide)]; exact t1, by rw [t 1 1 (by decide)]; exact t2, fun k hk => by rw [t 2 k (by decide)]; exact t3 k hk⟩
  · exact ((r 1 1 (by decide) (by decide) (by omega) (by omega)).trans (ao 1 1 (by decide))).trans h11
  · exact ((r 62 1 (by decide) (by decide) (by omega) (by omega)).trans (ao 62 1 (by decide))).trans h62
  · have t (j : Nat) (hj : j ≠ 15) : μ3 276 j = M 276 j := r 276 j (by decide) (by decide) (Or.inr hj) (by omega)
    exact ⟨(t 0 (by decide)).trans a0, (t 1 (by decide)).trans a1, (t 2 (by decide)).trans a2, (t 3 (by decide)).trans a3, (t 4 (by decide)).trans a4, (t 5 (by decide)).trans a5, (t 6 (by decide)).trans a6, by rw [t 8 (by decide), a8, hlen]⟩
  · exact ((r 281 m (by decide) (by decide) (by omega) (by omega)).trans (ao 281 m (by decide))).trans (hz 281 m (by decide) (by decide))
  · exact ((r 283 s (by decide) (by decide) (by omega) (by omega)).trans (ao 283 s (by decide))).trans (hz 283 s (by decide) (by decide))
  · exact ((r 284 s (by decide) (by decide) (by omega) (by omega)).trans (ao 284 s (by decide))).trans (hz 284 s (by decide) (by decide))
  · exact ((r 285 s (by decide) (by decide) (by omega) (by omega)).trans (ao 285 s (by decide))).trans (hz 285 s (by decide) (by decide))
  · exact (hf3 287 h (by decide) (by decide) (by omega)).trans (e2 h hh)
  · exact ((r 290 s (by decide) (by decide) (by omega) (by omega)).trans (ao 290 s (by decide))).trans (hz 290 s (by decide) (by decide))
set_option maxRecDepth 8000 in
theorem law_16 (hL : L ≤ 300) {μ : Mem} (hG : BG μ) : gl D cy X0 293 ad [] 11 (56 + (35 * 46 + 1)) (1309 + (776 * 46 + 48)) (mL_law L xs) (lwQ X0) PX 16 [.ref 6000, .ref 0, .ref 276, .null, .null, .null, .null, .null, .null] [] μ := by
  refine gl_aload_n (y := mL_law L xs) (pc := 16) dL_law_16 rfl rfl ?_
  refine gl_aload_n (y := mL_law L xs) (pc := 17) dL_law_17 rfl rfl ?_
  refine gl_aload_n (y := mL_law L xs) (pc := 18) dL_law_18 rfl rfl ?_
  refine gl_callGS (y := mL_law L xs) (pc := 19) (ad2 := ad) (d' := 10) (kc' := 56) (ks' := 1309) (kc2 := 35 * 46 + 1) (ks2 := 776 * 46 + 48) (n := 3) (y' := mL_begins L xs) (as := [.ref 0, .ref 276, .ref 6000]) (as' := [.ref 0, .ref 276, .ref 6000]) (rest := []) (G9 := []) (Fr := []) (R9 := Rbg ad) dL_law_19 rfl rfl ml_L_383 ok_L_begins (by decide) (fun _ _ => rfl) (Or.inr (Or.inl ⟨rfl, rfl⟩)) rfl rfl (show (3 : Nat) ≤ 5 by decide) (by intro v hv; simp only [List.mem_cons, List.not_mem_nil, or_false] at hv; rcases hv with rfl | rfl | rfl <;> rfl) (by decide) (by decide) (Nat.le_refl _) (Nat.le_refl _) (fun X1 => l_begins hL hG) (fun r ad' μ' G' h => ?_)
  obtain ⟨rfl, h2, h3, n, h4, h5, h6⟩ := h
  refine ⟨⟨h2 _ (by decide), Or.inl (fun L' xs' e => by cases e), fun k hk => h2 k (by omega)⟩, okr_map (P := fun k => k < 293 ∨ k = 6000) (okr_ref (by decide) (okr_ref (by decide) (okr_ref (by decide) (okr_null (okr_null (okr_null (okr_null (okr_null (okr_null okr_nil))))))))) (fun k hk => h2 k (by omega)), rfl, ?_⟩
  refine gl_cells (F3 := []) (G := G' ++ []) (List.Perm.refl _) ?_
  exact gl_dmono (by decide) (law_22 hL h3 h4 h5 h6)
end Law5
