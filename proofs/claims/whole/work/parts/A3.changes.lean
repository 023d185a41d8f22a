/-! CHANGES -/
section Chg
variable {μ t τ : Mem} {n : Nat}
theorem hst_c {r j : Nat} (h : r < 21) : hst μ n τ (64 + 21 * n + r) j = τ r j := by
  unfold hst
  rw [wr_na (by omega), wr_na (by omega), put_r h]
theorem hst_d {b j : Nat} (h : b ≠ 62) (h2 : b < 64 + 21 * n ∨ 64 + 21 * n + 21 ≤ b) : hst μ n τ b j = μ b j := by
  unfold hst
  rw [wr_na h, wr_na h, put_o h2]
theorem hst_1 : hst μ n τ 62 1 = if n < 7 then (n : Int) + 1 else 0 := by
  unfold hst
  rw [wr_ni (by decide), wr_s]
theorem hst_2 : hst μ n τ 62 2 = min (μ 62 2 + 1) 8 := wr_s _ _ _ _
theorem chg_ok {ν' : Nat → Int} {w b : Int} (hI : INV μ) (hn : n < 8) (h1 : μ 62 1 = n) (hτ : eqC τ (vw 20 μ)) (ht : wfC (su μ) t) (hr : rel (su μ) t ν') (hb : iI b = iI w) :
    Mq 0 w (some (.int (iI b))) (md (chg (wr (vw 276 (wr (put 20 t (hst μ n τ)) 289 0 w)) 0 7 0) ((wr (put 20 t (hst μ n τ)) 289 0 w) 277)) ν' (wr (put 20 t (hst μ n τ)) 289 0 w)) := by
  obtain ⟨⟨a1, a2, a3⟩, pN, pT, pE, pH, pS, pO, pB, p24⟩ := inv_at hI
  obtain ⟨M, eM⟩ : ∃ M, M = wr (put 20 t (hst μ n τ)) 289 0 w := ⟨_, rfl⟩
  rw [← eM]
  have m0 : ∀ b j, b < 20 ∨ (41 ≤ b ∧ b < 289) ∨ 290 ≤ b → M b j = hst μ n τ b j := fun b j h => by rw [eM, wr_na (by omega), put_o (by omega)]
  have m1 : ∀ b j, b < 20 ∨ (41 ≤ b ∧ b < 62) ∨ (232 ≤ b ∧ b < 289) ∨ 290 ≤ b → M b j = μ b j := fun b j h => by rw [m0 b j (by omega), hst_d (by omega) (by omega)]
  have m2 : ∀ r j, r < 21 → M (20 + r) j = t r j := fun r j h => by rw [eM, wr_na (by omega), put_r h]
  have e277 : M 277 = μ 277 := funext (fun j => m1 277 j (by omega))
  have e24 : (wr (vw 276 M) 0 7 0) 0 24 = 0 := by
    rw [wr_ni (by decide)]
    exact (m1 276 24 (by omega)).trans p24
  rw [show chg (wr (vw 276 M) 0 7 0) (M 277) = kps (wr (vw 276 M) 0 7 0) (M 277) from if_pos e24]
  obtain ⟨c4, c6⟩ := kps_c (σ := vw 276 μ) (σ' := wr (vw 276 M) 0 7 0) (ν := M 277) (fun j => by rw [wr_na (by decide)]; exact m1 280 j (by omega)) (by rw [wr_ni (by decide)]; exact m1 276 6 (by omega))
  rw [e277] at c4 c6
  obtain ⟨K, eK⟩ : ∃ K, K = kps (wr (vw 276 M) 0 7 0) (M 277) := ⟨_, rfl⟩
  have k0 : ∀ r j, r < 13 → r ≠ 1 → r ≠ 4 → (r ≠ 0 ∨ (j ≠ 6 ∧ j ≠ 7)) → K r j = μ (276 + r) j := fun r j h h1 h4 h6 => by
    rw [eK, kps_n h4 (by omega), wr_n (by omega)]
    exact m1 (276 + r) j (by omega)
  have k7 : K 0 7 = 0 := by rw [eK, kps_n (by decide) (Or.inr (by decide)), wr_s]
  rw [← e277, ← eK] at c4 c6
  rw [← eK]
  obtain ⟨N, eN⟩ : ∃ N, N = md K ν' M := ⟨_, rfl⟩
  rw [← eN]
  have z1 : ∀ b j, b < 276 ∨ 289 ≤ b → N b j = M b j := fun b j h => by rw [eN, md_o h]
  have z2 : ∀ b j, 276 ≤ b → b < 289 → b ≠ 277 → b ≠ 280 → (b ≠ 276 ∨ (j ≠ 6 ∧ j ≠ 7)) → N b j = μ b j := fun b j h1 h2 h3 h4 h5 => by
    have e : b = 276 + (b - 276) := by omega
    rw [e, eN, md_r (by omega) (by omega)]
    exact k0 _ _ (by omega) (by omega) (by omega) (by omega)
  have zz : ∀ b j, b < 20 ∨ (41 ≤ b ∧ b < 62) ∨ (232 ≤ b ∧ b < 276) ∨ 290 ≤ b → N b j = μ b j := fun b j h => by rw [z1 b j (by omega), m1 b j (by omega)]
  have e6 : N 276 6 = K 0 6 := by rw [eN]; exact md_r (r := 0) (by decide) (by decide)
  have e7 : N 276 7 = K 0 7 := by rw [eN]; exact md_r (r := 0) (by decide) (by decide)
  have e280 : ∀ j, N 280 j = K 4 j := fun j => by rw [eN]; exact md_r (r := 4) (by decide) (by decide)
  have n277 : N 277 = ν' := funext (fun j => by rw [eN]; exact md_n)
  have esu : su N = su μ := su_f (fun b j h1 h2 => zz b j (by omega))
  refine ⟨b, rfl, e7.trans k7, ?_, fun _ => ⟨hb, by rw [z1 289 0 (by omega), eM, wr_s]⟩⟩
  refine inv_mk (kCh a1 ht (by rw [n277]; exact hr) esu (fun r j h => by rw [z1 _ _ (by omega), m2 r j h])) (kNm esu pN) (kTx (zz 1 1 (by omega)) (fun k => zz 2 k (by omega)) (z2 276 9 (by omega) (by omega) (by omega) (by omega) (by omega)) (fun i => z2 283 i (by omega) (by omega) (by omega) (by omega) (by omega)) pT)
    (kEr (zz 3 4 (by omega)) (zz 3 5 (by omega)) (z2 276 10 (by omega) (by omega) (by omega) (by omega) (by omega)) (z2 276 11 (by omega) (by omega) (by omega) (by omega) (by omega)) pE) ?_
    (kSl a1 esu (fun b j h1 h2 => zz b j (by omega)) (fun t => zz 275 t (by omega)) (fun t => z2 282 t (by omega) (by omega) (by omega) (by omega) (by omega)) (fun j => z2 281 j (by omega) (by omega) (by omega) (by omega) (by omega)) pS)
    (kOu (zz 5000 0 (by omega)) (fun j => zz 5001 j (by omega)) (z2 276 26 (by omega) (by omega) (by omega) (by omega) (by omega)) (fun j => z2 288 j (by omega) (by omega) (by omega) (by omega) (by omega)) pO)
    (kBu (zz 5000 0 (by omega)) (zz 5002 0 (by omega)) (zz 5003 0 (by omega)) pB) ((z2 276 24 (by omega) (by omega) (by omega) (by omega) (by omega)).trans p24)
  refine inv_hst hI hn h1 hτ esu (fun r j h => by rw [z1 _ _ (by omega), m0 _ _ (by omega), hst_c h]) (fun b j h1 h2 h3 => by rw [z1 _ _ (by omega), m0 _ _ (by omega), hst_d (by omega) h3]) (by rw [z1 _ _ (by omega), m0 _ _ (by omega), hst_1]) (by rw [z1 _ _ (by omega), m0 _ _ (by omega), hst_2]) (by rw [e6, c6, e277]) (fun j => by rw [e280, c4, e277])
/-- the model's count of changes, before and after the class's change -/
theorem h6_0 (hI : INV μ) : 0 ≤ vw 276 μ 0 6 ∧ vw 276 μ 0 6 ≤ 8 := by
  obtain ⟨-, -, -, -, ⟨h', w1, w2, w3, w4, w5, w6⟩, -⟩ := inv_at hI
  have e : vw 276 μ 0 6 = μ 62 2 := w5
  omega
theorem h6_1 {w : Int} (hI : INV μ) (hn : n < 8) : 0 ≤ vw 276 (wr (put 20 t (hst μ n τ)) 289 0 w) 0 6 ∧ vw 276 (wr (put 20 t (hst μ n τ)) 289 0 w) 0 6 ≤ 8 := by
  have e : vw 276 (wr (put 20 t (hst μ n τ)) 289 0 w) 0 6 = vw 276 μ 0 6 := by
    show wr (put 20 t (hst μ n τ)) 289 0 w 276 6 = μ 276 6
    rw [wr_na (by decide), put_o (by decide), hst_d (by decide) (by omega)]
  rw [e]
  exact h6_0 hI
theorem iRc {w : Int} (hI : INV μ) (hn : n < 8) : rel (su μ) (vw 20 μ) ((wr (put 20 t (hst μ n τ)) 289 0 w) 277) := by
  have e : (wr (put 20 t (hst μ n τ)) 289 0 w) 277 = μ 277 := funext (fun j => by rw [wr_na (by decide), put_o (by decide), hst_d (by decide) (by omega)])
  rw [e]
  exact iR hI
end Chg
theorem T_propose {μ : Mem} {a b : Int} (h : INV μ) (ha : rng a) (hb : rng b) : Tw anyI mL_propose mX11_propose [.int (iI a), .int (iI b)] μ := by
  obtain ⟨n, hn, w1, w2, w3, w4, -⟩ := (inv_at h).2.2.2.2.1
  refine to_w (d := 8) (by decide) (by decide) (by decide) (W_propose (to_c (g_propose ha hb hn w1 ⟨w2, w3⟩ (iS h) (iC h) (fun g τ hτ => ?_) (fun g => ?_))))
  · refine vok (to_m (by decide) (m_propose ha hb (h6_1 h hn) (iRc h hn) (iS h) (iC h) (fun g2 ν' hν => ?_) (fun g2 => absurd g g2)))
    obtain ⟨g3, g4, g5⟩ := rfMo_0 g
    exact chg_ok h hn w1 hτ (wf_amo (iC h) (wf_n (iS h)).2.1 g5 g3) hν (iI_wp _).symm
  · rw [pvw]
    rcases (by unfold rfMo; (repeat' split) <;> omega : rfMo (su μ) (vw 20 μ) a b = 0 ∨ rfMo (su μ) (vw 20 μ) a b = 1 ∨ rfMo (su μ) (vw 20 μ) a b = 2 ∨ rfMo (su μ) (vw 20 μ) a b = 3) with e | e | e | e
    · exact absurd e g
    · refine Or.inl ⟨by rw [e]; rfl, tok (k := 1) (by decide) (to_m (by decide) (m_propose ha hb (h6_0 h) (iR h) (iS h) (iC h) (fun w => absurd w g) (fun _ => ?_)))⟩
      rw [e]
      exact rdk h (by decide)
    · refine Or.inr (Or.inl ⟨by rw [e]; rfl, tok (k := 2) (by decide) (to_m (by decide) (m_propose ha hb (h6_0 h) (iR h) (iS h) (iC h) (fun w => absurd w g) (fun _ => ?_)))⟩)
      rw [e]
      exact rdk h (by decide)
    · refine Or.inr (Or.inr (⟨by rw [e]; rfl, tok (k := 3) (by decide) (to_m (by decide) (m_propose ha hb (h6_0 h) (iR h) (iS h) (iC h) (fun w => absurd w g) (fun _ => ?_)))⟩))
      rw [e]
      exact rdk h (by decide)
theorem T_rebut {μ : Mem} {a b : Int} (h : INV μ) (ha : rng a) (hb : rng b) : Tw anyI mL_rebut mX11_rebut [.int (iI a), .int (iI b)] μ := by
  obtain ⟨n, hn, w1, w2, w3, w4, -⟩ := (inv_at h).2.2.2.2.1
  refine to_w (d := 8) (by decide) (by decide) (by decide) (W_rebut (to_c (g_rebut ha hb hn w1 ⟨w2, w3⟩ (iS h) (iC h) (fun k hk hl g τ hτ => ?_) (fun g => ?_))))
  · refine vok (to_m (by decide) (m_rebut ha hb (h6_1 h hn) (iRc h hn) (iS h) (iC h) (fun g2 ν' hν => ?_) (fun g2 => absurd g g2)))
    obtain ⟨g3, g4, g5, g6, g7⟩ := rfRb_0 g
    subst hk
    exact chg_ok h hn w1 hτ (wf_reb (iS h) (iC h) hl g5 g6 g7) hν (iI_wp _).symm
  · rw [pvw]
    rcases (by unfold rfRb; (repeat' split) <;> omega : rfRb (su μ) (vw 20 μ) a b = 0 ∨ rfRb (su μ) (vw 20 μ) a b = 1 ∨ rfRb (su μ) (vw 20 μ) a b = 3) with e | e | e
    · exact absurd e g
    · refine Or.inl ⟨by rw [e]; rfl, tok (k := 1) (by decide) (to_m (by decide) (m_rebut ha hb (h6_0 h) (iR h) (iS h) (iC h) (fun w => absurd w g) (fun _ => ?_)))⟩
      rw [e]
      exact rdk h (by decide)
    · refine Or.inr (⟨by rw [e]; rfl, tok (k := 2) (by decide) (to_m (by decide) (m_rebut ha hb (h6_0 h) (iR h) (iS h) (iC h) (fun w => absurd w g) (fun _ => ?_)))⟩)
      rw [e]
      exact rdk h (by decide)
theorem T_advance {μ : Mem} {a : Int} (h : INV μ) (ha : rng a) : Tw anyI mL_advance mX11_advance [.int (iI a)] μ := by
  obtain ⟨n, hn, w1, w2, w3, w4, -⟩ := (inv_at h).2.2.2.2.1
  refine to_w (d := 8) (by decide) (by decide) (by decide) (W_advance (to_c (g_advance ha hn w1 ⟨w2, w3⟩ (iS h) (iC h) (fun k hk hl g τ hτ => ?_) (fun g => ?_))))
  · refine vok (to_m (by decide) (m_advance ha (h6_1 h hn) (iRc h hn) (iS h) (iC h) (fun g2 ν' hν => ?_) (fun g2 => absurd g g2)))
    subst hk
    exact chg_ok h hn w1 hτ ((wf_pms (iS h) (iC h) k).1) hν (iI_wp _).symm
  · rw [pvw]
    rcases (by unfold rfWt; (repeat' split) <;> omega : rfWt (vw 20 μ) a = 0 ∨ rfWt (vw 20 μ) a = 2 ∨ rfWt (vw 20 μ) a = 3) with e | e | e
    · exact absurd e g
    · refine Or.inl ⟨by rw [e]; rfl, tok (k := 1) (by decide) (to_m (by decide) (m_advance ha (h6_0 h) (iR h) (iS h) (iC h) (fun w => absurd w g) (fun _ => ?_)))⟩
      rw [e]
      exact rdk h (by decide)
    · refine Or.inr (⟨by rw [e]; rfl, tok (k := 2) (by decide) (to_m (by decide) (m_advance ha (h6_0 h) (iR h) (iS h) (iC h) (fun w => absurd w g) (fun _ => ?_)))⟩)
      rw [e]
      exact rdk h (by decide)
theorem T_vote {μ : Mem} {a : Int} (h : INV μ) (ha : rng a) : Tw b01 mL_vote mX11_vote [.int (iI a)] μ := by
  obtain ⟨n, hn, w1, w2, w3, w4, -⟩ := (inv_at h).2.2.2.2.1
  refine to_w (d := 8) (by decide) (by decide) (by decide) (W_vote (to_c (g_vote ha hn w1 ⟨w2, w3⟩ (iS h) (iC h) (fun k hk hl g τ hτ => ?_) (fun g => ?_))))
  · refine vok2 (bI_01 _) (to_m (by decide) (m_vote ha (h6_1 h hn) (iRc h hn) (iS h) (iC h) (fun g2 ν' hν => ?_) (fun g2 => absurd g g2)))
    subst hk
    exact chg_ok h hn w1 hτ (wf_hvo (iS h) (iC h)) hν rfl
  · rw [pvw]
    rcases (by unfold rfVt; (repeat' split) <;> omega : rfVt (su μ) (vw 20 μ) a = 0 ∨ rfVt (su μ) (vw 20 μ) a = 1 ∨ rfVt (su μ) (vw 20 μ) a = 3) with e | e | e
    · exact absurd e g
    · refine Or.inl ⟨by rw [e]; rfl, tok (k := 1) (by decide) (to_m (by decide) (m_vote ha (h6_0 h) (iR h) (iS h) (iC h) (fun w => absurd w g) (fun _ => ?_)))⟩
      rw [e]
      exact rdk h (by decide)
    · refine Or.inr (⟨by rw [e]; rfl, tok (k := 2) (by decide) (to_m (by decide) (m_vote ha (h6_0 h) (iR h) (iS h) (iC h) (fun w => absurd w g) (fun _ => ?_)))⟩)
      rw [e]
      exact rdk h (by decide)
theorem T_withdraw {μ : Mem} {a : Int} (h : INV μ) (ha : rng a) : Tw anyI mL_withdraw mX11_withdraw [.int (iI a)] μ := by
  obtain ⟨n, hn, w1, w2, w3, w4, -⟩ := (inv_at h).2.2.2.2.1
  refine to_w (d := 8) (by decide) (by decide) (by decide) (W_withdraw (to_c (g_withdraw ha hn w1 ⟨w2, w3⟩ (iS h) (iC h) (fun k hk hl g τ hτ => ?_) (fun g => ?_))))
  · refine vok (to_m (by decide) (m_withdraw ha (h6_1 h hn) (iRc h hn) (iS h) (iC h) (fun g2 ν' hν => ?_) (fun g2 => absurd g g2)))
    subst hk
    exact chg_ok h hn w1 hτ (wf_clo (iC h) (by decide)) hν (iI_wp _).symm
  · rw [pvw]
    rcases (by unfold rfWd; (repeat' split) <;> omega : rfWd (vw 20 μ) a = 0 ∨ rfWd (vw 20 μ) a = 1 ∨ rfWd (vw 20 μ) a = 3) with e | e | e
    · exact absurd e g
    · refine Or.inl ⟨by rw [e]; rfl, tok (k := 1) (by decide) (to_m (by decide) (m_withdraw ha (h6_0 h) (iR h) (iS h) (iC h) (fun w => absurd w g) (fun _ => ?_)))⟩
      rw [e]
      exact rdk h (by decide)
    · refine Or.inr (⟨by rw [e]; rfl, tok (k := 2) (by decide) (to_m (by decide) (m_withdraw ha (h6_0 h) (iR h) (iS h) (iC h) (fun w => absurd w g) (fun _ => ?_)))⟩)
      rw [e]
      exact rdk h (by decide)
theorem T_sharpen {μ : Mem} {a : Int} (h : INV μ) (ha : rng a) : Tw anyI mL_sharpen mX11_sharpen [.int (iI a)] μ := by
  obtain ⟨n, hn, w1, w2, w3, w4, -⟩ := (inv_at h).2.2.2.2.1
  refine to_w (d := 8) (by decide) (by decide) (by decide) (W_sharpen (to_c (g_sharpen ha hn w1 ⟨w2, w3⟩ (iS h) (iC h) (fun k hk hl g τ hτ => ?_) (fun g => ?_))))
  · refine vok (to_m (by decide) (m_sharpen ha (h6_1 h hn) (iRc h hn) (iS h) (iC h) (fun g2 ν' hν => ?_) (fun g2 => absurd g g2)))
    subst hk
    have g3 := rfSh_0 g
    exact chg_ok h hn w1 hτ (wf_shp5 (iC h) hl g3.2) hν (iI_wp _).symm
  · rw [pvw]
    rcases (by unfold rfSh; (repeat' split) <;> omega : rfSh (su μ) (vw 20 μ) a = 0 ∨ rfSh (su μ) (vw 20 μ) a = 1 ∨ rfSh (su μ) (vw 20 μ) a = 3) with e | e | e
    · exact absurd e g
    · refine Or.inl ⟨by rw [e]; rfl, tok (k := 1) (by decide) (to_m (by decide) (m_sharpen ha (h6_0 h) (iR h) (iS h) (iC h) (fun w => absurd w g) (fun _ => ?_)))⟩
      rw [e]
      exact rdk h (by decide)
    · refine Or.inr (⟨by rw [e]; rfl, tok (k := 2) (by decide) (to_m (by decide) (m_sharpen ha (h6_0 h) (iR h) (iS h) (iC h) (fun w => absurd w g) (fun _ => ?_)))⟩)
      rw [e]
      exact rdk h (by decide)
theorem T_setRanking {μ : Mem} {a : Int} (h : INV μ) (ha : rng a) : Tw anyI mL_setRanking mX11_setRanking [.int (iI a)] μ := by
  obtain ⟨n, hn, w1, w2, w3, w4, -⟩ := (inv_at h).2.2.2.2.1
  refine to_w (d := 8) (by decide) (by decide) (by decide) (W_setRanking (to_c (g_setRanking ha hn w1 ⟨w2, w3⟩ (iS h) (iC h) (fun g τ hτ => ?_) (fun g => ?_))))
  · refine vok (to_m (by decide) (m_setRanking ha (h6_1 h hn) (iRc h hn) (iS h) (iC h) (fun g2 ν' hν => ?_) (fun g2 => absurd g g2)))
    have g3 := rfRk_0 g
    exact chg_ok h hn w1 hτ (wf_w (iC h) (by omega)) hν (iI_wp _).symm
  · rw [pvw]
    rcases (by unfold rfRk; (repeat' split) <;> omega : rfRk a = 0 ∨ rfRk a = 1) with e | e
    · exact absurd e g
    · refine ⟨by rw [e]; rfl, tok (k := 1) (by decide) (to_m (by decide) (m_setRanking ha (h6_0 h) (iR h) (iS h) (iC h) (fun w => absurd w g) (fun _ => ?_)))⟩
      rw [e]
      exact rdk h (by decide)
theorem T_request {μ : Mem} {a b f : Int} (h : INV μ) (ha : rng a) (hb : rng b) (hf : f = 0 ∨ f = 1) : Tw anyI mL_request mX11_request [.int (iI a), .int (iI b), .int (iI f)] μ := by
  obtain ⟨n, hn, w1, w2, w3, w4, -⟩ := (inv_at h).2.2.2.2.1
  refine to_w (d := 8) (by decide) (by decide) (by decide) (W_request (to_c (g_request ha hb (by rcases hf with e | e <;> rw [e] <;> decide) hn w1 ⟨w2, w3⟩ (iS h) (iC h) (fun k j hk hj hl hl2 g τ hτ => ?_) (fun g => ?_))))
  · refine vok (to_m (by decide) (m_request ha hb hf (h6_1 h hn) (iRc h hn) (iS h) (iC h) (fun g2 ν' hν => ?_) (fun g2 => absurd g g2)))
    subst hk hj
    have g3 := rfRq_0 g
    exact chg_ok h hn w1 hτ (wf_rad (iS h) (iC h) hl hl2 (by split <;> omega) g3.2.2) hν (iI_wp _).symm
  · rw [pvw]
    rcases (by unfold rfRq; (repeat' split) <;> omega : rfRq (su μ) (vw 20 μ) a b = 0 ∨ rfRq (su μ) (vw 20 μ) a b = 1 ∨ rfRq (su μ) (vw 20 μ) a b = 3) with e | e | e
    · exact absurd e g
    · refine Or.inl ⟨by rw [e]; rfl, tok (k := 1) (by decide) (to_m (by decide) (m_request ha hb hf (h6_0 h) (iR h) (iS h) (iC h) (fun w => absurd w g) (fun _ => ?_)))⟩
      rw [e]
      exact rdk h (by decide)
    · refine Or.inr (⟨by rw [e]; rfl, tok (k := 2) (by decide) (to_m (by decide) (m_request ha hb hf (h6_0 h) (iR h) (iS h) (iC h) (fun w => absurd w g) (fun _ => ?_)))⟩)
      rw [e]
      exact rdk h (by decide)
