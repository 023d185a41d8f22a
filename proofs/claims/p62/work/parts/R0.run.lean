/-! THE LAW, run -/
theorem bg_first {μ' : Mem} (h : tkS f0 tx0.length m1 μ') : BG (ow 276 zO (tkE9 μ')) := by
  obtain ⟨t1, t2, -⟩ := h
  obtain ⟨p1, p2, p3, p4⟩ := ptn_p sc_0 m0_T rfl tx0.length (Nat.le_refl _)
  have lo : ∀ b j, b < 20 → ow 276 zO (tkE9 μ') b j = μ' b j := fun b j hb => by
    rw [ow_o (by omega)]
    unfold tkE9
    rw [put_o (by omega), wr_na (by omega), wr_na (by omega), wr_na (by omega)]
  refine ⟨⟨?_, ?_, fun k hk => ?_⟩, ?_, ⟨0, by decide, ?_⟩, fun b j h1 h2 => ?_⟩
  · rw [lo 1 1 (by decide), t2]; decide
  · rw [lo 1 1 (by decide), t2]; decide
  · rw [lo 2 k (by decide), t1 2 k (by decide) (by decide) (by decide)]
    exact p3.2.2 k hk
  · rw [lo 1 1 (by decide), t2]
  · rw [ow_o (by omega)]
    unfold tkE9
    rw [put_o (by decide), wr_na (by decide), wr_na (by decide), wr_ni (by decide), t1 62 1 (by decide) (by decide) (by decide)]
    exact p4 62 1 (by decide) (by decide)
  · obtain ⟨r, rfl⟩ : ∃ r, b = 276 + r := ⟨b - 276, by omega⟩
    rw [ow_r (by omega)]
    rfl
theorem law_run {D : va_G} {cy : Nat → ClassId} {X0 : Nat → Prop} {L : Nat} {xs : Nat → Int32} (hL : L ≤ 300) {h : Nat} {ad : Nat → Nat} (had : ∀ i, i < 276 → ad i = h + i) (h50 : ad 5000 = h + 276) (h51 : ad 5001 = h + 277) (h55 : ad 5005 = ad 5000) :
    gc D cy X0 ad 11 (277 + (16 + (56 + (35 * 46 + 1)) + 1) + 1) (5545 + (349 + (1309 + (776 * 46 + 48)) + 33) + 11) (mL_law L xs) (lwQ X0) noX 0 [.ref 6000, .null, .null, .null, .null, .null, .null, .null, .null] [] ([] ++ []) h :=
  law_0 (D := D) (cy := cy) (X0 := X0) (PQ := lwQ X0) (L := L) (xs := xs) had h50 h51 h55 (fun ad' μ μ' hμ eμ => by
    rw [eμ]
    exact law_16 (D := D) (cy := cy) (X0 := X0) (L := L) (xs := xs) hL (bg_first hμ))
