/-! BOTH, NEW -/
theorem m1_o {b j : Nat} (h1 : b ≠ 1) (h2 : b ≠ 2) : m1 b j = m0 b j := (ptn_p sc_0 m0_T rfl tx0.length (Nat.le_refl _)).2.2.2 b j h1 h2
theorem m1_z {b j : Nat} (h1 : b ≠ 1) (h2 : b ≠ 2) (h3 : b ≠ 5002) : m1 b j = 0 := (m1_o h1 h2).trans (if_neg h3)
theorem m1_T : okT f0 tx0.length m1 := tx_ptn sc_0 m0_T rfl
theorem first_pos : (rdS f0 tx0.length (st0 f0 tx0.length) m1).1.2.2 = -1 := by
  decide +kernel
theorem first_inv {μ' σ' : Mem} {ν' : Nat → Int} (hμ : tkS f0 tx0.length m1 μ') (hs : ∀ r j, (r ≠ 0 ∨ j < 9 ∨ (9 < j ∧ j < 12) ∨ 17 < j) → r ≠ 7 → σ' r j = vw 276 (mmod (tkE9 μ')) r j) (hr : rls (rdS f0 tx0.length (st0 f0 tx0.length) m1).2 ν') (hD : wfD (rdS f0 tx0.length (st0 f0 tx0.length) m1).2) (h1 : 1 ≤ (rdS f0 tx0.length (st0 f0 tx0.length) m1).2 15 7) :
    INV (md (wr σ' 0 9 0) ν' (mmod (tkE9 μ'))) := by
  obtain ⟨t1, t2, t3, t4, t5, t6⟩ := hμ
  rw [first_pos] at t4
  have tb := m1_T.2.2.2.2
  obtain ⟨M, eM⟩ : ∃ M, M = tkE9 μ' := ⟨_, rfl⟩
  rw [← eM] at hs ⊢
  have mq : ∀ b j, b ≠ 1 → b ≠ 3 → (b < 10 ∨ 41 ≤ b) → (b ≠ 62 ∨ j ≠ 2) → b ≠ 275 → M b j = m1 b j := fun b j q1 q3 q q2 q5 => by
    rw [eM]
    unfold tkE9
    rw [put_o (by omega), wr_na (by omega), wr_na (by omega), wr_n (by omega)]
    exact t1 b j q1 q3 (by omega)
  have m2 : ∀ b j, b < 20 → M b j = μ' b j := fun b j q => by
    rw [eM]
    unfold tkE9
    rw [put_o (by omega), wr_na (by omega), wr_na (by omega), wr_na (by omega)]
  have m3 : ∀ r j, r < 21 → M (20 + r) j = clr (su μ') (vw 20 μ') r j := fun r j q => by
    rw [eM]
    exact put_r q
  have m4 : M 62 2 = 0 := by rw [eM]; unfold tkE9; rw [put_o (by decide), wr_na (by decide), wr_na (by decide), wr_s]
  have m5 : ∀ t, t < 2 → M 275 t = 0 := fun t ht => by
    rw [eM]
    unfold tkE9
    rw [put_o (by decide)]
    rcases (show t = 0 ∨ t = 1 by omega) with e | e <;> subst e
    · rw [wr_ni (by decide), wr_s]
    · rw [wr_s]
  obtain ⟨N, eN⟩ : ∃ N, N = md (wr σ' 0 9 0) ν' (mmod M) := ⟨_, rfl⟩
  rw [← eN]
  have z1 : ∀ b j, b < 276 ∨ 5000 ≤ b → N b j = M b j := fun b j q => by
    rw [eN, md_o (by omega)]
    unfold mmod
    rcases q with q | q
    · exact if_pos q
    · exact (if_neg (by omega)).trans (if_pos q)
  have z3 : ∀ r j, r < 13 → r ≠ 1 → N (276 + r) j = wr σ' 0 9 0 r j := fun r j h1 h2 => by rw [eN, md_r h1 h2]
  have zz : ∀ r j, r < 13 → r ≠ 1 → r ≠ 7 → (r ≠ 0 ∨ j < 9 ∨ (9 < j ∧ j < 12) ∨ 17 < j) → N (276 + r) j = if r = 0 ∧ j = 11 then -1 else 0 := fun r j h1 h2 h7 h0 => by
    rw [z3 r j h1 h2, wr_n (by omega), hs r j h0 h7]
    show mmod M (276 + r) j = _
    unfold mmod
    rw [if_neg (by omega), if_neg (by omega)]
    by_cases g : r = 0
    · subst g
      rw [if_pos rfl]
      by_cases g2 : j = 11
      · rw [if_pos g2, if_pos ⟨rfl, g2⟩]
      · rw [if_neg g2, if_neg (fun w => g2 w.2)]
    · rw [if_neg (by omega), if_neg (fun w => g w.1)]
  have eS : su N = su μ' := su_f (fun b j h1 h2 => by rw [z1 b j (by omega), m2 b j (by omega)])
  obtain ⟨w1, w2, w3, w4⟩ := new_ok (S := su μ') (s := vw 20 μ') hr hD h1 (fun j hj => t5 j hj) (fun r j h1 h2 hj => (su_e (by omega)).trans (t6 r j h1 h2 hj))
  have x6 : ∀ t, t < 2 → N 282 t = 0 := fun t ht => (zz 6 t (by decide) (by decide) (by decide) (by omega)).trans (if_neg (fun w => absurd w.1 (by decide)))
  have y9 : N 276 9 = 0 := by rw [z3 0 9 (by decide) (by decide), wr_s]
  have y10 : N 276 10 = 0 := (zz 0 10 (by decide) (by decide) (by decide) (by omega)).trans (if_neg (by decide))
  have y11 : N 276 11 = -1 := (zz 0 11 (by decide) (by decide) (by decide) (by omega)).trans (if_pos ⟨rfl, rfl⟩)
  have y6 : N 276 6 = 0 := (zz 0 6 (by decide) (by decide) (by decide) (by omega)).trans (if_neg (by decide))
  have y26 : N 276 26 = 0 := (zz 0 26 (by decide) (by decide) (by decide) (by omega)).trans (if_neg (by decide))
  have y24 : N 276 24 = 0 := (zz 0 24 (by decide) (by decide) (by decide) (by omega)).trans (if_neg (by decide))
  have v1 : M 62 1 = 0 := (mq 62 1 (by decide) (by decide) (by omega) (by omega) (by decide)).trans (m1_z (by decide) (by decide) (by decide))
  have b50 : N 5000 0 = 0 := by rw [z1 _ _ (by omega), mq _ _ (by decide) (by decide) (by omega) (by omega) (by decide), m1_z (by decide) (by decide) (by decide)]
  have b52 : N 5002 0 = 16 := by rw [z1 _ _ (by omega), mq _ _ (by decide) (by decide) (by omega) (by omega) (by decide), m1_o (by decide) (by decide)]; rfl
  have b53 : N 5003 0 = 0 := by rw [z1 _ _ (by omega), mq _ _ (by decide) (by decide) (by omega) (by omega) (by decide), m1_z (by decide) (by decide) (by decide)]
  refine inv_mk (kCh w1 w2 (by rw [show N 277 = ν' from funext (fun j => by rw [eN, md_n])]; exact w3) eS (fun r j hr => by rw [z1 _ _ (by omega), m3 r j hr])) ?_ (tx_0 (by rw [z1 _ _ (by omega), m2 _ _ (by omega), t2]) (fun k hk => by rw [z1 _ _ (by omega), mq 2 k (by omega) (by omega) (by omega) (by omega) (by omega)]; exact tb k hk) y9) ⟨by rw [z1 _ _ (by omega), m2 _ _ (by omega), t3, y10], by rw [z1 _ _ (by omega), m2 _ _ (by omega), t4, y11]⟩ ?_ ?_ ?_ ?_ y24
  · unfold iNm
    rw [eS]
    exact w4
  · exact ⟨0, by decide, by rw [z1 _ _ (by omega), v1]; rfl, by rw [z1 _ _ (by omega), m4]; decide, by rw [z1 _ _ (by omega), m4]; decide, by rw [y6, z1 _ _ (by omega), m4], fun k hk => by rw [z1 _ _ (by omega), m4] at hk; omega⟩
  · intro t ht
    rw [z1 275 t (by omega), m5 t ht, x6 t ht]
    exact ⟨Or.inl rfl, rfl, fun w => absurd w (by decide)⟩
  · exact ⟨[], ⟨b50, fun j c hj => by cases hj⟩, ⟨y26, fun j c hj => by cases hj⟩, by decide, fun c hc => by cases hc⟩
  · exact ⟨b53, by rw [b52]; exact Or.inl rfl, by rw [b50, b52]; decide⟩
