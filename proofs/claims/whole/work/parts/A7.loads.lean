/-! load, runScript -/
section Loads
variable {μ N : Mem}
theorem smf_z {f : Nat → Int} : ∀ n : Nat, (∀ k, k < n → f k = 0) → smf f n = 0
  | 0, _ => rfl
  | n + 1, h => by rw [smf, smf_z n (fun k hk => h k (by omega)), h n (by omega)]; rfl
theorem mck_o {S s : Mem} {r j : Nat} (h : r < 2 ∨ 4 < r) : ∀ k, mck S s k r j = s r j
  | 0 => rfl
  | k + 1 => by rw [mck, wr_na (by omega), wr_na (by omega), wr_na (by omega), mck_o h k]
theorem mck_v {S s : Mem} {m : Nat} : ∀ k, m < k → mck S s k 2 m = S 4 m ∧ mck S s k 3 m = 5 ∧ mck S s k 4 m = 0
  | 0, h => by omega
  | k + 1, h => by
    rw [mck]
    by_cases g : m = k
    · subst g
      exact ⟨by rw [wr_na (by decide), wr_na (by decide), wr_s], by rw [wr_na (by decide), wr_s], wr_s _ _ _ _⟩
    · obtain ⟨a, b, c⟩ := mck_v (S := S) (s := s) (m := m) k (by omega)
      exact ⟨by rw [wr_na (by decide), wr_na (by decide), wr_ni g]; exact a, by rw [wr_na (by decide), wr_ni g, wr_na (by decide)]; exact b, by rw [wr_ni g, wr_na (by decide), wr_na (by decide)]; exact c⟩
/-- a chamber that was cleared -/
theorem clr_v (S s : Mem) : (clr S s 0 5 = 0 ∧ clr S s 0 6 = 0 ∧ clr S s 0 7 = 0 ∧ clr S s 0 8 = 0 ∧ clr S s 0 9 = 0 ∧ clr S s 0 10 = 0 ∧ clr S s 5 0 = 0 ∧ clr S s 11 0 = 0) ∧
    (∀ m : Nat, m < 12 → clr S s 2 m = S 4 m ∧ clr S s 3 m = 5 ∧ clr S s 4 m = 0) ∧ ∀ h : Nat, h < 4 → clr S s 16 h = -1 ∧ clr S s 19 h = 0 ∧ clr S s 20 h = 0 := by
  refine ⟨⟨?_, ?_, ?_, ?_, ?_, ?_, ?_, ?_⟩, fun m hm => ?_, fun h hh => ?_⟩
  · unfold clr; rw [wr_ni (by decide), wr_ni (by decide), wr_ni (by decide), wr_ni (by decide), wr_ni (by decide), wr_s]
  · unfold clr; rw [wr_ni (by decide), wr_ni (by decide), wr_ni (by decide), wr_ni (by decide), wr_s]
  · unfold clr; rw [wr_ni (by decide), wr_ni (by decide), wr_ni (by decide), wr_s]
  · unfold clr; rw [wr_ni (by decide), wr_ni (by decide), wr_s]
  · unfold clr; rw [wr_ni (by decide), wr_s]
  · unfold clr; rw [wr_s]
  · unfold clr
    rw [wr_na (by decide), wr_na (by decide), wr_na (by decide), wr_na (by decide), wr_na (by decide), wr_na (by decide)]
    unfold clk
    rw [if_neg (by omega), if_neg (by omega), wr_na (by decide), wr_s]
  · unfold clr
    rw [wr_na (by decide), wr_na (by decide), wr_na (by decide), wr_na (by decide), wr_na (by decide), wr_na (by decide)]
    unfold clk
    rw [if_neg (by omega), if_neg (by omega), wr_s]
  · have k : ∀ r, 2 ≤ r → r ≤ 4 → clr S s r m = mck S s 12 r m := fun r h1 h2 => by
      unfold clr
      rw [wr_na (by omega), wr_na (by omega), wr_na (by omega), wr_na (by omega), wr_na (by omega), wr_na (by omega)]
      unfold clk
      rw [if_neg (by omega), if_neg (by omega), wr_na (by omega), wr_na (by omega)]
    rw [k 2 (by decide) (by decide), k 3 (by decide) (by decide), k 4 (by decide) (by decide)]
    exact mck_v 12 hm
  · have k : ∀ r, r = 16 ∨ r = 19 ∨ r = 20 → clr S s r h = if r = 16 then -1 else 0 := fun r h1 => by
      unfold clr
      rw [wr_na (by omega), wr_na (by omega), wr_na (by omega), wr_na (by omega), wr_na (by omega), wr_na (by omega)]
      unfold clk
      by_cases g : r = 16
      · rw [if_pos ⟨hh, g⟩, if_pos g]
      · rw [if_neg (by omega), if_pos ⟨hh, by omega⟩, if_neg g]
    exact ⟨k 16 (by omega), k 19 (by omega), k 20 (by omega)⟩
/-- a setup that was taken, and the chamber new over it -/
theorem new_ok {τ S s : Mem} {ν : Nat → Int} (hr : rls τ ν) (hD : wfD τ) (h1 : 1 ≤ τ 15 7) (e0 : ∀ j, j < 8 → S 0 j = τ 15 j) (er : ∀ r j, 1 ≤ r → r ≤ 4 → j < 12 → S r j = τ (15 + r) j) :
    wfS S ∧ wfC S (clr S s) ∧ rel S (clr S s) ν ∧ ∀ m : Nat, (m : Int) < S 0 7 → isn 6 (S 1 m) ∧ 0 < S 1 m := by
  obtain ⟨⟨d0, d12⟩, dh, dm⟩ := hD
  obtain ⟨⟨r0, r1, r2, r3, r4, r5, r6, r8, r16⟩, rm, ro⟩ := hr
  obtain ⟨⟨k5, k6, k7, k8, k9, k10, k50, k11⟩, km, kh⟩ := clr_v S s
  have f0 := e0 0 (by decide)
  have f1 := e0 1 (by decide)
  have f2 := e0 2 (by decide)
  have f3 := e0 3 (by decide)
  have f4 := e0 4 (by decide)
  have f5 := e0 5 (by decide)
  have f6 := e0 6 (by decide)
  have f7 := e0 7 (by decide)
  have em : mrs (clr S s) = 0 := smf_z 4 (fun k hk => (kh k hk).2.2)
  have hm : ∀ m : Nat, (m : Int) < S 0 7 → m < 12 ∧ (m : Int) < τ 15 7 := fun m h => ⟨by omega, by omega⟩
  have wS : ∀ m : Nat, (m : Int) < S 0 7 → 1 ≤ S 2 m ∧ S 2 m ≤ 9 ∧ 0 ≤ S 3 m ∧ S 3 m ≤ 20 ∧ 0 ≤ S 4 m ∧ S 4 m ≤ 99 := fun m h => by
    obtain ⟨g1, g2⟩ := hm m h
    obtain ⟨-, -, q⟩ := dm m g2
    rw [er 2 m (by decide) (by decide) g1, er 3 m (by decide) (by decide) g1, er 4 m (by decide) (by decide) g1]
    exact q
  refine ⟨⟨by omega, by omega, by omega, by omega, by omega, by omega, by omega, by omega, by omega, by omega, by omega, by omega, by omega, by omega, by omega, by omega, wS⟩, ⟨⟨by omega, by omega, by omega, by omega, by omega, by omega, by omega⟩, fun m h => ?_, fun q hq => ?_, fun r hr => ?_, fun r k hr => ?_, fun h hh => Or.inl (kh h hh)⟩,
    ⟨⟨by omega, by omega, by omega, by omega, by omega, by omega, by omega, by omega, ?_⟩, ⟨?_, ?_, ?_, ?_, ?_, ?_, ?_, ?_⟩, fun m h => ?_, fun q hq => ?_, fun h hh => ?_, fun r hr => ?_⟩, fun m h => ?_⟩
  · obtain ⟨g1, -⟩ := hm m h
    obtain ⟨q1, q2, q3⟩ := km m g1
    have q := wS m h
    omega
  · omega
  · omega
  · omega
  · rw [r16, f7]
    exact smf_cong (fun k hk => (er 4 k (by decide) (by decide) (by omega)).symm)
  · rw [ro 7 (by decide) (by omega), k5]; rfl
  · rw [ro 9 (by decide) (by omega), k50]; rfl
  · rw [ro 10 (by decide) (by omega), k6]; rfl
  · rw [ro 11 (by decide) (by omega), k11]; rfl
  · rw [ro 12 (by decide) (by omega), k7]; rfl
  · rw [ro 13 (by decide) (by omega), k8]; rfl
  · rw [ro 14 (by decide) (by omega), k9]; rfl
  · rw [ro 15 (by decide) (by omega), k10]; rfl
  · obtain ⟨g1, g2⟩ := hm m h
    obtain ⟨q0, q1, q2, q3, q4, q5⟩ := rm m g2
    obtain ⟨p1, p2, p3⟩ := km m g1
    rw [p1, p2, p3, er 1 m (by decide) (by decide) g1, er 2 m (by decide) (by decide) g1, er 3 m (by decide) (by decide) g1, er 4 m (by decide) (by decide) g1]
    exact ⟨q0, q1, q2, q3, q4, q5⟩
  · omega
  · have hh4 : h < 4 := by omega
    obtain ⟨q1, q2, q3⟩ := kh h hh4
    rw [q1]
    refine ⟨?_, fun w => absurd rfl w⟩
    rw [ro _ (by omega) (by omega)]
    unfold bg0
    rw [if_pos (by omega)]
  · omega
  · obtain ⟨g1, g2⟩ := hm m h
    obtain ⟨q1, q2, -⟩ := dm m g2
    rw [er 1 m (by decide) (by decide) g1]
    exact ⟨q1, q2⟩
/-- no text -/
theorem tx_0 (h : N 1 1 = 0) (hb : ∀ k : Nat, k < 700 → -128 ≤ N 2 k ∧ N 2 k < 128) (h9 : N 276 9 = 0) : iTx N := by
  refine ⟨fun _ => 0, 0, ⟨?_, h, by rw [h]; decide, by rw [h]; decide, hb⟩, h9, by decide, fun i hi => absurd hi (by omega), rfl⟩
  funext j
  unfold tx
  rw [h, if_neg (by omega)]
theorem D_load (h : INV μ) : Td mX10_load mX11_load [] μ := by
  obtain ⟨⟨a1, a2, a3⟩, pN, ⟨f, L, oT, oB⟩, pE, pH, pS, pO, pB, p24⟩ := inv_at h
  have tb := oT.2.2.2.2
  obtain ⟨R, eR⟩ : ∃ R, R = rdS f L (st0 f L) μ := ⟨_, rfl⟩
  have e9 : rdS f L (tkB f L 0, 0, -1) μ = R := eR.symm
  refine to_d (by decide) (by decide) (by decide) (g_load oT (fun hs μ' hμ => ?_) (fun hs μ' hμ => ?_))
  · obtain ⟨t1, t2, t3, t4, t5, t6⟩ := hμ
    rw [← eR] at hs t4 t5 t6
    refine dok ?_
    obtain ⟨M, eM⟩ : ∃ M, M = tkE9 μ' := ⟨_, rfl⟩
    rw [← eM]
    have m1 : ∀ b j, b ≠ 1 → b ≠ 3 → (b < 10 ∨ 41 ≤ b) → (b ≠ 62 ∨ j ≠ 2) → b ≠ 275 → M b j = μ b j := fun b j q1 q3 q q2 q5 => by
      rw [eM]
      unfold tkE9
      rw [put_o (by omega), wr_na (by omega), wr_na (by omega), wr_n (by omega)]
      exact t1 b j q1 q3 (by omega)
    have m2 : ∀ b j, b < 20 → M b j = μ' b j := fun b j q => by
      rw [eM]
      unfold tkE9
      rw [put_o (by omega), wr_na (by omega), wr_na (by omega), wr_na (by omega)]
    have m3 : ∀ r j, r < 21 → M (20 + r) j = clr (su μ') (vw 20 μ') r j := fun r j q => by
      rw [eM]
      exact put_r q
    have m4 : M 62 2 = 0 := by rw [eM]; unfold tkE9; rw [put_o (by decide), wr_na (by decide), wr_na (by decide), wr_s]
    have m5 : ∀ t, t < 2 → M 275 t = 0 := fun t ht => by
      rw [eM]
      unfold tkE9
      rw [put_o (by decide)]
      rcases (show t = 0 ∨ t = 1 by omega) with e | e <;> subst e
      · rw [wr_ni (by decide), wr_s]
      · rw [wr_s]
    refine to_m2 (by decide) (m_load (τ := μ) (okB_c oB (m1 276 9 (by omega) (by omega) (by omega) (by omega) (by omega)) (fun i _ => m1 283 i (by omega) (by omega) (by omega) (by omega) (by omega))) (fun hs2 σ' ν' hr hD h1 hsm => ?_) (fun hs2 => by rw [e9] at hs2; exact absurd hs hs2))
    rw [e9] at hr hD h1 hsm
    obtain ⟨N, eN⟩ : ∃ N, N = md σ' ν' M := ⟨_, rfl⟩
    rw [← eN]
    have z1 : ∀ b j, b < 276 ∨ 289 ≤ b → N b j = M b j := fun b j q => by rw [eN, md_o q]
    have z3 : ∀ r j, r < 13 → r ≠ 1 → N (276 + r) j = σ' r j := fun r j h1 h2 => by rw [eN, md_r h1 h2]
    have eS : su N = su μ' := su_f (fun b j h1 h2 => by rw [z1 b j (by omega), m2 b j (by omega)])
    obtain ⟨w1, w2, w3, w4⟩ := new_ok (S := su μ') (s := vw 20 μ') hr hD h1 (fun j hj => t5 j hj) (fun r j h1 h2 hj => (su_e (by omega)).trans (t6 r j h1 h2 hj))
    have zs : ∀ r j, r < 13 → r ≠ 1 → r ≠ 3 → r ≠ 6 → (r ≠ 0 ∨ j < 6 ∨ j = 8 ∨ 17 < j) → N (276 + r) j = μ (276 + r) j := fun r j h1 h2 h3 h6 h0 => by
      rw [z3 r j h1 h2, hsm r j (by omega) h3, wr_n (by omega), wr_n (by omega), wr_n (by omega), wr_n (by omega), wr_n (by omega), wr_n (by omega), wr_n (by omega)]
      exact m1 (276 + r) j (by omega) (by omega) (by omega) (by omega) (by omega)
    have x0 : ∀ j, j < 12 → N 276 j = wr (wr (wr (wr (wr (wr (wr (vw 276 M) 0 7 0) 0 9 0) 0 10 0) 0 11 R.1.2.2) 0 6 0) 6 0 0) 6 1 0 0 j := fun j hj => (z3 0 j (by decide) (by decide)).trans (hsm 0 j (by omega) (by decide))
    have x6 : ∀ t, t < 2 → N 282 t = 0 := fun t ht => by
      refine (z3 6 t (by decide) (by decide)).trans ((hsm 6 t (by omega) (by decide)).trans ?_)
      rcases (show t = 0 ∨ t = 1 by omega) with e | e <;> subst e
      · rw [wr_ni (by decide), wr_s]
      · rw [wr_s]
    have y9 : N 276 9 = 0 := by rw [x0 9 (by decide), wr_na (by decide), wr_na (by decide), wr_ni (by decide), wr_ni (by decide), wr_ni (by decide), wr_s]
    have y10 : N 276 10 = 0 := by rw [x0 10 (by decide), wr_na (by decide), wr_na (by decide), wr_ni (by decide), wr_ni (by decide), wr_s]
    have y11 : N 276 11 = R.1.2.2 := by rw [x0 11 (by decide), wr_na (by decide), wr_na (by decide), wr_ni (by decide), wr_s]
    have y6 : N 276 6 = 0 := by rw [x0 6 (by decide), wr_na (by decide), wr_na (by decide), wr_s]
    obtain ⟨h', v1, v2, -⟩ := pH
    refine ⟨by rw [iI_wp], inv_mk (kCh w1 w2 (by rw [show N 277 = ν' from funext (fun j => by rw [eN, md_n])]; exact w3) eS (fun r j hr => by rw [z1 _ _ (by omega), m3 r j hr])) ?_ (tx_0 (by rw [z1 _ _ (by omega), m2 _ _ (by omega), t2]) (fun k hk => by rw [z1 _ _ (by omega), m1 2 k (by omega) (by omega) (by omega) (by omega) (by omega)]; exact tb k hk) y9) ⟨by rw [z1 _ _ (by omega), m2 _ _ (by omega), t3, y10], by rw [z1 _ _ (by omega), m2 _ _ (by omega), t4, y11]⟩ ?_ ?_ ?_ ?_ ?_⟩
    · unfold iNm
      rw [eS]
      exact w4
    · exact ⟨h', v1, by rw [z1 _ _ (by omega), m1 62 1 (by omega) (by omega) (by omega) (by omega) (by omega), v2], by rw [z1 _ _ (by omega), m4]; decide, by rw [z1 _ _ (by omega), m4]; decide, by rw [y6, z1 _ _ (by omega), m4], fun k hk => by rw [z1 _ _ (by omega), m4] at hk; omega⟩
    · intro t ht
      rw [z1 275 t (by omega), m5 t ht, x6 t ht]
      exact ⟨Or.inl rfl, rfl, fun w => absurd w (by decide)⟩
    · exact kOu (by rw [z1 _ _ (by omega), m1 _ _ (by omega) (by omega) (by omega) (by omega) (by omega)]) (fun j => by rw [z1 _ _ (by omega), m1 _ _ (by omega) (by omega) (by omega) (by omega) (by omega)]) (zs 0 26 (by decide) (by decide) (by decide) (by decide) (by decide)) (fun j => zs 12 j (by decide) (by decide) (by decide) (by decide) (by omega)) pO
    · exact kBu (by rw [z1 _ _ (by omega), m1 _ _ (by omega) (by omega) (by omega) (by omega) (by omega)]) (by rw [z1 _ _ (by omega), m1 _ _ (by omega) (by omega) (by omega) (by omega) (by omega)]) (by rw [z1 _ _ (by omega), m1 _ _ (by omega) (by omega) (by omega) (by omega) (by omega)]) pB
    · exact (zs 0 24 (by decide) (by decide) (by decide) (by decide) (by decide)).trans p24
  · obtain ⟨t1, t2, t3, t4⟩ := hμ
    rw [← eR] at hs t3 t4 ⊢
    refine dok ?_
    have e277 : μ' 277 = μ 277 := funext (fun j => t1 277 j (by decide) (by decide) (by decide))
    refine to_m2 (by decide) (m_load (τ := μ) (okB_c oB (t1 276 9 (by decide) (by decide) (by decide)) (fun i _ => t1 283 i (by decide) (by decide) (by decide))) (fun hs2 => by rw [e9] at hs2; exact absurd hs2 hs) (fun hs2 σ' ν' hν hsm => ?_))
    rw [e9] at hsm ⊢
    obtain ⟨N, eN⟩ : ∃ N, N = md σ' ν' μ' := ⟨_, rfl⟩
    rw [← eN]
    have z1 : ∀ b j, b < 276 ∨ 289 ≤ b → N b j = μ' b j := fun b j q => by rw [eN, md_o q]
    have z3 : ∀ r j, r < 13 → r ≠ 1 → N (276 + r) j = σ' r j := fun r j h1 h2 => by rw [eN, md_r h1 h2]
    have zz : ∀ b j, b ≠ 1 → b ≠ 3 → (b < 15 ∨ 20 ≤ b) → (b < 276 ∨ 289 ≤ b) → N b j = μ b j := fun b j q1 q3 q q9 => by rw [z1 b j q9, t1 b j q1 q3 q]
    have zs : ∀ r j, r < 13 → r ≠ 1 → r ≠ 3 → (r ≠ 0 ∨ j < 7 ∨ j = 8 ∨ 17 < j) → N (276 + r) j = μ (276 + r) j := fun r j h1 h2 h3 h0 => by
      rw [z3 r j h1 h2, hsm r j (by omega) h3, wr_n (by omega), wr_n (by omega), wr_n (by omega), wr_n (by omega)]
      exact t1 (276 + r) j (by omega) (by omega) (by omega)
    have x0 : ∀ j, j < 12 → N 276 j = wr (wr (wr (wr (vw 276 μ') 0 7 0) 0 9 0) 0 10 R.1.2.1) 0 11 R.1.2.2 0 j := fun j hj => (z3 0 j (by decide) (by decide)).trans (hsm 0 j (by omega) (by decide))
    have y9 : N 276 9 = 0 := by rw [x0 9 (by decide), wr_ni (by decide), wr_ni (by decide), wr_s]
    have y10 : N 276 10 = R.1.2.1 := by rw [x0 10 (by decide), wr_ni (by decide), wr_s]
    have y11 : N 276 11 = R.1.2.2 := by rw [x0 11 (by decide), wr_s]
    have eS : su N = su μ := su_f (fun b j h1 h2 => zz b j (by omega) (by omega) (by omega) (by omega))
    refine ⟨by rw [iI_wp], inv_mk (kCh a1 a2 (rel_n a1 a2 a3 (fun j hj => by rw [eN, md_n, hν j hj, e277])) eS (fun r j hr => zz _ _ (by omega) (by omega) (by omega) (by omega))) (kNm eS pN) (tx_0 (by rw [z1 _ _ (by omega), t2]) (fun k hk => by rw [zz 2 k (by omega) (by omega) (by omega) (by omega)]; exact tb k hk) y9) ⟨by rw [z1 _ _ (by omega), t3, y10], by rw [z1 _ _ (by omega), t4, y11]⟩
      (kHs a1 eS (fun b j _ _ => zz b j (by omega) (by omega) (by omega) (by omega)) (zz 62 1 (by omega) (by omega) (by omega) (by omega)) (zz 62 2 (by omega) (by omega) (by omega) (by omega)) (zs 0 6 (by decide) (by decide) (by decide) (by decide)) (fun j => zs 4 j (by decide) (by decide) (by decide) (by omega)) pH)
      (kSl a1 eS (fun b j _ _ => zz b j (by omega) (by omega) (by omega) (by omega)) (fun t => zz 275 t (by omega) (by omega) (by omega) (by omega)) (fun t => zs 6 t (by decide) (by decide) (by decide) (by omega)) (fun j => zs 5 j (by decide) (by decide) (by decide) (by omega)) pS)
      (kOu (zz _ _ (by omega) (by omega) (by omega) (by omega)) (fun j => zz _ _ (by omega) (by omega) (by omega) (by omega)) (zs 0 26 (by decide) (by decide) (by decide) (by decide)) (fun j => zs 12 j (by decide) (by decide) (by decide) (by omega)) pO)
      (kBu (zz _ _ (by omega) (by omega) (by omega) (by omega)) (zz _ _ (by omega) (by omega) (by omega) (by omega)) (zz _ _ (by omega) (by omega) (by omega) (by omega)) pB) ((zs 0 24 (by decide) (by decide) (by decide) (by decide)).trans p24)⟩
theorem D_runScript (h : INV μ) : Td mX10_runScript mX11_runScript [] μ := by
  obtain ⟨⟨a1, a2, a3⟩, pN, ⟨f, L, oT, oB⟩, pE, pH, pS, pO, pB, p24⟩ := inv_at h
  have tb := oT.2.2.2.2
  obtain ⟨hh, v1, v2, v3, v4, v5, v6⟩ := id pH
  have hI := okI_0 oT a1
  have gx : ∀ {s : Sta}, (gon f L s).2.1 = s.2.1 := fun {s} => by rw [gon_v]
  have e0 : (rdE f L μ).2.1 = 0 → (rdB f L μ).1.2.1 = 0 := fun g => by
    unfold rdE at g
    rw [gx] at g
    exact (mus_0 (show (1 : Int) ≠ 0 by decide) g).1
  have h45 : sc0 μ 4 5 = 0 := by unfold sc0; rw [wr_ni (by decide), wr_ni (by decide), wr_s]
  have cb : 0 ≤ (rdB f L μ).2 4 5 ∧ (rdB f L μ).2 4 5 ≤ 30 := (pv_2 _ hI).2.2
  obtain ⟨n, hw, hP⟩ : ∃ n, ((rdE f L μ).2.1 = 0 → wfb (rdB f L μ).2 2 n 0 ((rdB f L μ).2 4 5).toNat) ∧ ((rdE f L μ).2.1 = 0 → okP (rdB f L μ).2 ((rdB f L μ).2 4 5).toNat) := by
    by_cases g : (rdE f L μ).2.1 = 0
    · obtain ⟨w1, ⟨n, w2⟩, w3⟩ := wr_2 (f := f) (L := L) (st0 f L, sc0 μ) hI (e0 g)
      refine ⟨n, fun _ => ?_, fun _ => ⟨by omega, fun k hk => w3 k ?_ hk⟩⟩
      · rw [show ((st0 f L, sc0 μ) : Sta × Mem).2 4 5 = 0 from h45] at w2
        exact w2
      · show ((sc0 μ) 4 5).toNat ≤ k
        rw [h45]
        exact Nat.zero_le k
    · exact ⟨0, fun w => absurd w g, fun w => absurd w g⟩
  refine to_d (by decide) (by decide) (by decide) (g_runScript oT a1 a2 v1 v2 ⟨v3, v4⟩ hw (fun hs μ' τ hμ hτ => ?_) (fun hs μ' hμ => ?_))
  · obtain ⟨t1, t2, t3, t4⟩ := hμ
    refine dok ?_
    obtain ⟨x, ex⟩ : ∃ x, x = rnX f L μ n := ⟨_, rfl⟩
    have okx : okR (su μ) x := by
      rw [ex]
      exact ok_rnB a1 (hP hs) n 2 0 _ _ (hw hs) (Nat.le_refl _) ⟨a2, Int.le_refl 0, (by decide : (0 : Int) ≤ 40)⟩
    rw [← ex]
    obtain ⟨M, eM⟩ : ∃ M, M = put 20 x.1 (wr (wr (hst μ' hh τ) 4 6 x.2.1) 4 7 (if x.2.2 = true then 1 else 0)) := ⟨_, rfl⟩
    rw [show xs x (hst μ' hh τ) = M from eM.symm]
    have m0 : ∀ b j, b < 20 ∨ 41 ≤ b → b ≠ 4 → M b j = hst μ' hh τ b j := fun b j q q4 => by rw [eM, put_o (by omega), wr_na q4, wr_na q4]
    have m1 : ∀ b j, b ≠ 1 → b ≠ 3 → (b < 4 ∨ 10 ≤ b) → b < 20 ∨ (41 ≤ b ∧ b < 62) ∨ 232 ≤ b → M b j = μ b j := fun b j q1 q3 q q2 => by
      rw [m0 b j (by omega) (by omega), hst_d (by omega) (by omega)]
      exact t1 b j q1 q3 q
    have m2 : ∀ r j, r < 21 → M (20 + r) j = x.1 r j := fun r j q => by rw [eM, put_r q]
    have e277 : M 277 = μ 277 := funext (fun j => m1 277 j (by decide) (by decide) (by decide) (by decide))
    have c2 : μ' 62 2 = μ 62 2 := t1 62 2 (by decide) (by decide) (by decide)
    refine to_m2 (by decide) (m_runScript (M := μ) (n := n) oT (okB_c oB (m1 276 9 (by decide) (by decide) (by decide) (by decide)) (fun i _ => m1 283 i (by decide) (by decide) (by decide) (by decide))) (by rw [e277]; exact a3) a1 a2 (fun m hm => (pN m hm).1) (by rw [show vw 276 M 0 6 = μ 276 6 from m1 276 6 (by decide) (by decide) (by decide) (by decide), v5]; exact ⟨v3, v4⟩) ((m1 276 24 (by decide) (by decide) (by decide) (by decide)).trans p24) hw (fun _ σ' ν' hr hsm s9 s10 s11 s24 => ?_) (fun hs2 => absurd hs hs2))
    rw [← ex] at hr ⊢
    obtain ⟨N, eN⟩ : ∃ N, N = md σ' ν' M := ⟨_, rfl⟩
    rw [← eN]
    have z1 : ∀ b j, b < 276 ∨ 289 ≤ b → N b j = M b j := fun b j q => by rw [eN, md_o q]
    have z3 : ∀ r j, r < 13 → r ≠ 1 → N (276 + r) j = σ' r j := fun r j h1 h2 => by rw [eN, md_r h1 h2]
    obtain ⟨c4, c6⟩ := kps_c (σ := vw 276 μ) (σ' := vw 276 M) (ν := M 277) (fun j => m1 280 j (by decide) (by decide) (by decide) (by decide)) (m1 276 6 (by decide) (by decide) (by decide) (by decide))
    rw [e277] at c4 c6
    have zs : ∀ r j, r < 13 → r ≠ 1 → r ≠ 4 → ((r ≠ 0 ∧ (r < 8 ∨ 11 < r)) ∨ (r = 0 ∧ j = 26)) → N (276 + r) j = μ (276 + r) j := fun r j h1 h2 h4 h0 => by
      rw [z3 r j h1 h2, hsm r j (by omega), kps_n h4 (by omega)]
      exact m1 (276 + r) j (by omega) (by omega) (by omega) (by omega)
    have e6 : N 276 6 = kps (vw 276 μ) (μ 277) 0 6 := ((z3 0 6 (by decide) (by decide)).trans (hsm 0 6 (by omega))).trans (by rw [e277]; exact c6)
    have e280 : ∀ j, N 280 j = kps (vw 276 μ) (μ 277) 4 j := fun j => ((z3 4 j (by decide) (by decide)).trans (hsm 4 j (by omega))).trans (by rw [e277]; exact c4 j)
    have zz : ∀ b j, b ≠ 1 → b ≠ 3 → (b < 4 ∨ 10 ≤ b) → b < 20 ∨ (41 ≤ b ∧ b < 62) ∨ (232 ≤ b ∧ b < 276) ∨ 289 ≤ b → N b j = μ b j := fun b j q1 q3 q q2 => by rw [z1 b j (by omega), m1 b j q1 q3 q (by omega)]
    have eS : su N = su μ := su_f (fun b j h1 h2 => zz b j (by omega) (by omega) (by omega) (by omega))
    refine ⟨by rw [iI_wp], inv_mk (kCh a1 okx.1 (by rw [show N 277 = ν' from funext (fun j => by rw [eN, md_n])]; exact hr) eS (fun r j hr => by rw [z1 _ _ (by omega), m2 r j hr])) (kNm eS pN) (tx_0 (by rw [z1 _ _ (by omega), m0 _ _ (by omega) (by omega), hst_d (by omega) (by omega), t2]) (fun k hk => by rw [zz 2 k (by omega) (by omega) (by omega) (by omega)]; exact tb k hk) ((z3 0 9 (by decide) (by decide)).trans s9)) ⟨?_, ?_⟩
      (inv_hst h v1 v2 hτ eS (fun r j hr => by rw [z1 _ _ (by omega), m0 _ _ (by omega) (by omega), hst_c hr]) (fun b j h1 h2 h3 => by rw [z1 _ _ (by omega), m0 _ _ (by omega) (by omega), hst_d (by omega) h3]; exact t1 b j (by omega) (by omega) (by omega)) (by rw [z1 _ _ (by omega), m0 _ _ (by omega) (by omega), hst_1]) (by rw [z1 _ _ (by omega), m0 _ _ (by omega) (by omega), hst_2, c2]) e6 e280)
      (kSl a1 eS (fun b j _ _ => zz b j (by omega) (by omega) (by omega) (by omega)) (fun t => zz 275 t (by omega) (by omega) (by omega) (by omega)) (fun t => zs 6 t (by decide) (by decide) (by decide) (by omega)) (fun j => zs 5 j (by decide) (by decide) (by decide) (by omega)) pS)
      (kOu (zz _ _ (by omega) (by omega) (by omega) (by omega)) (fun j => zz _ _ (by omega) (by omega) (by omega) (by omega)) (zs 0 26 (by decide) (by decide) (by decide) (by omega)) (fun j => zs 12 j (by decide) (by decide) (by decide) (by omega)) pO)
      (kBu (zz _ _ (by omega) (by omega) (by omega) (by omega)) (zz _ _ (by omega) (by omega) (by omega) (by omega)) (zz _ _ (by omega) (by omega) (by omega) (by omega)) pB) ((z3 0 24 (by decide) (by decide)).trans s24)⟩
    · rw [z1 _ _ (by omega), m0 _ _ (by omega) (by omega), hst_d (by omega) (by omega), t3, hs]
      exact ((z3 0 10 (by decide) (by decide)).trans s10).symm
    · rw [z1 _ _ (by omega), m0 _ _ (by omega) (by omega), hst_d (by omega) (by omega), t4]
      exact ((z3 0 11 (by decide) (by decide)).trans s11).symm
  · obtain ⟨t1, t2, t3, t4⟩ := hμ
    refine dok ?_
    have e277 : μ' 277 = μ 277 := funext (fun j => t1 277 j (by decide) (by decide) (by decide))
    refine to_m2 (by decide) (m_runScript (M := μ) (n := n) oT (okB_c oB (t1 276 9 (by decide) (by decide) (by decide)) (fun i _ => t1 283 i (by decide) (by decide) (by decide))) (by rw [e277]; exact a3) a1 a2 (fun m hm => (pN m hm).1) (by rw [show vw 276 μ' 0 6 = μ 276 6 from t1 276 6 (by decide) (by decide) (by decide), v5]; exact ⟨v3, v4⟩) ((t1 276 24 (by decide) (by decide) (by decide)).trans p24) hw (fun hs2 => absurd hs2 hs) (fun _ σ' hsm s9 s10 s11 s24 => ?_))
    obtain ⟨N, eN⟩ : ∃ N, N = md σ' (μ' 277) μ' := ⟨_, rfl⟩
    rw [← eN]
    have z1 : ∀ b j, b < 276 ∨ 289 ≤ b → N b j = μ' b j := fun b j q => by rw [eN, md_o q]
    have z3 : ∀ r j, r < 13 → r ≠ 1 → N (276 + r) j = σ' r j := fun r j h1 h2 => by rw [eN, md_r h1 h2]
    have zs : ∀ r j, r < 13 → r ≠ 1 → ((r ≠ 0 ∧ (r < 8 ∨ 11 < r)) ∨ (r = 0 ∧ (j = 6 ∨ j = 26))) → N (276 + r) j = μ (276 + r) j := fun r j h1 h2 h0 => by
      rw [z3 r j h1 h2, hsm r j h0]
      exact t1 (276 + r) j (by omega) (by omega) (by omega)
    have zz : ∀ b j, b ≠ 1 → b ≠ 3 → (b < 4 ∨ 10 ≤ b) → (b < 276 ∨ 289 ≤ b) → N b j = μ b j := fun b j q1 q3 q q9 => by rw [z1 b j q9, t1 b j q1 q3 q]
    have eS : su N = su μ := su_f (fun b j h1 h2 => zz b j (by omega) (by omega) (by omega) (by omega))
    refine ⟨by rw [iI_wp], inv_mk (kCh a1 a2 (by rw [show N 277 = μ 277 from funext (fun j => by rw [eN, md_n, e277])]; exact a3) eS (fun r j hr => zz _ _ (by omega) (by omega) (by omega) (by omega))) (kNm eS pN) (tx_0 (by rw [z1 _ _ (by omega), t2]) (fun k hk => by rw [zz 2 k (by omega) (by omega) (by omega) (by omega)]; exact tb k hk) ((z3 0 9 (by decide) (by decide)).trans s9)) ⟨by rw [z1 _ _ (by omega), t3]; exact ((z3 0 10 (by decide) (by decide)).trans s10).symm, by rw [z1 _ _ (by omega), t4]; exact ((z3 0 11 (by decide) (by decide)).trans s11).symm⟩
      (kHs a1 eS (fun b j _ _ => zz b j (by omega) (by omega) (by omega) (by omega)) (zz 62 1 (by omega) (by omega) (by omega) (by omega)) (zz 62 2 (by omega) (by omega) (by omega) (by omega)) (zs 0 6 (by decide) (by decide) (by omega)) (fun j => zs 4 j (by decide) (by decide) (by omega)) pH)
      (kSl a1 eS (fun b j _ _ => zz b j (by omega) (by omega) (by omega) (by omega)) (fun t => zz 275 t (by omega) (by omega) (by omega) (by omega)) (fun t => zs 6 t (by decide) (by decide) (by omega)) (fun j => zs 5 j (by decide) (by decide) (by omega)) pS)
      (kOu (zz _ _ (by omega) (by omega) (by omega) (by omega)) (fun j => zz _ _ (by omega) (by omega) (by omega) (by omega)) (zs 0 26 (by decide) (by decide) (by omega)) (fun j => zs 12 j (by decide) (by decide) (by omega)) pO)
      (kBu (zz _ _ (by omega) (by omega) (by omega) (by omega)) (zz _ _ (by omega) (by omega) (by omega) (by omega)) (zz _ _ (by omega) (by omega) (by omega) (by omega)) pB) ((z3 0 24 (by decide) (by decide)).trans s24)⟩
end Loads
