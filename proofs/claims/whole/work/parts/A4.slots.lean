/-! UNDO, SLOTS, THE TEXT -/
section Slots
variable {μ N t : Mem}
/-- what undo and the slots leave as it was -/
def hn1 (b j : Nat) : Prop := (b = 1 ∧ j = 1) ∨ b = 2 ∨ (b = 3 ∧ (j = 4 ∨ j = 5)) ∨ (10 ≤ b ∧ b < 15) ∨ (b = 276 ∧ (j = 9 ∨ j = 10 ∨ j = 11 ∨ j = 24 ∨ j = 26)) ∨ b = 283 ∨ b = 288 ∨ 5000 ≤ b
theorem su_hn (zz : ∀ b j, hn1 b j → N b j = μ b j) : su N = su μ := su_f (fun b j h1 h2 => zz b j (by unfold hn1; omega))
theorem inv_t (hI : INV μ) (ht : wfC (su μ) t) (hr : rel (su μ) t (N 277)) (e20 : ∀ r j, r < 21 → N (20 + r) j = t r j) (zz : ∀ b j, hn1 b j → N b j = μ b j) (pH : iHs N) (pS : iSl N) : INV N := by
  obtain ⟨⟨a1, a2, a3⟩, pN, pT, pE, -, -, pO, pB, p24⟩ := inv_at hI
  have esu : su N = su μ := su_hn zz
  refine inv_mk (kCh a1 ht hr esu e20) (kNm esu pN) (kTx ?_ (fun k => ?_) ?_ (fun i => ?_) pT) (kEr ?_ ?_ ?_ ?_ pE) pH pS (kOu ?_ (fun j => ?_) ?_ (fun j => ?_) pO) (kBu ?_ ?_ ?_ pB) ((?_ : N 276 24 = μ 276 24).trans p24)
  all_goals exact zz _ _ (by unfold hn1; omega)
theorem T_undo (h : INV μ) : Tw anyI mL_undo mX11_undo [] μ := by
  obtain ⟨⟨a1, a2, a3⟩, pN, pT, pE, ⟨n, hn, w1, w2, w3, w4, w5⟩, pS, pO, pB, p24⟩ := inv_at h
  obtain ⟨c, hc⟩ := Int.eq_ofNat_of_zero_le w2
  refine to_w (d := 8) (by decide) (by decide) (by decide) (W_undo (to_c (g_undo hn w1 ⟨w2, w3⟩ a1 a2 (fun g k hk τ hτ => ?_) (fun g => ⟨rfl, ?_⟩))))
  · refine vok (to_m (by decide) (m_undo (u := c) ?_ (by omega) (fun w hw => ?_) (fun g2 => absurd g2 (by omega))))
    · show wr (put 20 τ (wr (wr μ 62 1 k) 62 2 (μ 62 2 - 1))) 289 0 (wp (μ 62 2 - 1)) 276 6 = c
      rw [wr_na (by decide), put_o (by decide), wr_na (by decide), wr_na (by decide), w4, hc]
    · obtain ⟨M, eM⟩ : ∃ M, M = wr (put 20 τ (wr (wr μ 62 1 k) 62 2 (μ 62 2 - 1))) 289 0 (wp (μ 62 2 - 1)) := ⟨_, rfl⟩
      rw [← eM]
      have m1 : ∀ b j, b < 20 ∨ (41 ≤ b ∧ b < 62) ∨ (62 < b ∧ b < 289) ∨ 290 ≤ b → M b j = μ b j := fun b j q => by rw [eM, wr_na (by omega), put_o (by omega), wr_na (by omega), wr_na (by omega)]
      have m2 : ∀ r j, r < 21 → M (20 + r) j = τ r j := fun r j q => by rw [eM, wr_na (by omega), put_r q]
      have m3 : M 62 1 = k := by rw [eM, wr_na (by decide), put_o (by decide), wr_ni (by decide), wr_s]
      have m4 : M 62 2 = w := by rw [eM, wr_na (by decide), put_o (by decide), wr_s]; omega
      obtain ⟨N, eN⟩ : ∃ N, N = md (wr (wr (vw 276 M) 0 7 0) 0 6 (w : Nat)) (cpn (M 277) (vw 276 M) 4 (418 * w) 418) M := ⟨_, rfl⟩
      rw [← eN]
      have z1 : ∀ b j, b < 276 ∨ 289 ≤ b → N b j = M b j := fun b j q => by rw [eN, md_o q]
      have z2 : ∀ b j, 276 ≤ b → b < 289 → b ≠ 277 → (b ≠ 276 ∨ (j ≠ 6 ∧ j ≠ 7)) → N b j = μ b j := fun b j h1 h2 h3 h5 => by
        have e : b = 276 + (b - 276) := by omega
        rw [e, eN, md_r (by omega) (by omega), wr_n (by omega), wr_n (by omega)]
        show M (276 + (b - 276)) j = μ (276 + (b - 276)) j
        exact m1 _ _ (by omega)
      have e6 : N 276 6 = w := by rw [eN]; exact (md_r (r := 0) (by decide) (by decide)).trans (wr_s _ _ _ _)
      have e7 : N 276 7 = 0 := by rw [eN]; exact (md_r (r := 0) (by decide) (by decide)).trans ((wr_ni (by decide)).trans (wr_s _ _ _ _))
      have n277 : ∀ j, j < 418 → N 277 j = μ 280 (418 * w + j) := fun j q => by
        rw [eN, md_n, cpn_e q]
        exact m1 280 _ (by omega)
      have zz : ∀ b j, hn1 b j → N b j = μ b j := fun b j q => by
        unfold hn1 at q
        by_cases g9 : 276 ≤ b ∧ b < 289
        · exact z2 b j g9.1 g9.2 (by omega) (by omega)
        · rw [z1 b j (by omega), m1 b j (by omega)]
      have esu := su_hn zz
      have ek : (n + 7 - 0) % 8 = k := by split at hk <;> omega
      obtain ⟨q1, q2⟩ := w5 0 (by omega)
      rw [ek] at q1 q2
      have hC : wfC (su μ) τ := wf_eq a1 q1 hτ
      refine ⟨(w : Nat), rfl, e7, ?_, fun _ => ⟨by rw [iI_wp]; congr 1; omega, by rw [z1 289 0 (by omega), eM, wr_s]⟩⟩
      refine inv_t h hC (rel_n a1 hC (rel_eq a1 q1 q2 hτ) (fun j q => ?_)) (fun r j q => by rw [z1 _ _ (by omega), m2 r j q]) zz ?_ (kSl a1 esu (fun b j _ _ => by rw [z1 b j (by omega), m1 b j (by omega)]) (fun t => by rw [z1 _ _ (by omega), m1 _ _ (by omega)]) (fun t => z2 282 t (by omega) (by omega) (by omega) (by omega)) (fun j => z2 281 j (by omega) (by omega) (by omega) (by omega)) pS)
      · rw [n277 j q]
        show _ = μ 280 (418 * ((μ 62 2).toNat - 1 - 0) + j)
        congr 2
        omega
      · refine ⟨k, by split at hk <;> omega, by rw [z1 _ _ (by omega), m3], by rw [z1 _ _ (by omega), m4]; omega, by rw [z1 _ _ (by omega), m4]; omega, by rw [e6, z1 _ _ (by omega), m4], fun k' hk' => ?_⟩
        rw [z1 _ _ (by omega), m4] at hk'
        obtain ⟨g1, g2⟩ := w5 (k' + 1) (by omega)
        have ei : (n + 7 - (k' + 1)) % 8 = (k + 7 - k') % 8 := by split at hk <;> omega
        have hm : (k + 7 - k') % 8 < 8 := Nat.mod_lt _ (by decide)
        rw [ei] at g1 g2
        rw [esu, z1 62 2 (by omega), m4]
        have q : eqC (vw (64 + 21 * ((k + 7 - k') % 8)) N) (vw (64 + 21 * ((k + 7 - k') % 8)) μ) := eqC_of (fun r j hr => by show N _ j = μ _ j; rw [z1 _ _ (by omega), m1 _ _ (by omega)])
        refine ⟨wf_eq a1 g1 q, rel_n a1 (wf_eq a1 g1 q) (rel_eq a1 g1 g2 q) (fun j hj => ?_)⟩
        show N 280 (418 * (((w : Nat) : Int).toNat - 1 - k') + j) = μ 280 (418 * ((μ 62 2).toNat - 1 - (k' + 1)) + j)
        rw [z2 280 _ (by omega) (by omega) (by omega) (by omega)]
        congr 2
        omega
  · rw [pvw]
    exact tok (by decide) (to_m (by decide) (m_undo (u := c) (w4.trans hc) (by omega) (fun w hw => absurd hw (by omega)) (fun _ => rdk h (by decide))))
theorem T_restore {a : Int} (h : INV μ) (ha : rng a) : Tw anyI mL_restore mX11_restore [.int (iI a)] μ := by
  obtain ⟨⟨a1, a2, a3⟩, pN, pT, pE, ⟨n, hn, w1, w2, w3, w4, w5⟩, pS, pO, pB, p24⟩ := inv_at h
  refine to_w (d := 8) (by decide) (by decide) (by decide) (W_restore (to_c (g_restore ha (fun k hk => (pS k hk).1) (fun k hk hk2 hs τ hτ => ?_) (fun hn => Or.inl ⟨rfl, ?_⟩) (fun k hk hk2 hs => Or.inr ⟨rfl, ?_⟩))))
  · obtain ⟨-, s2, s3⟩ := pS k hk2
    obtain ⟨q1, q2⟩ := s3 hs
    have hC : wfC (su μ) τ := wf_eq a1 q1 hτ
    have hR := rel_eq a1 q1 q2 hτ
    refine vok (to_m (by decide) (m_restore ha (fun q hq => ?_) (fun q hq hq2 hs2 => ?_) (fun hn => absurd (show _ ∧ _ from ⟨by omega, by omega⟩) hn) (fun q hq hq2 hs2 => ?_)))
    · have e : vw 276 (wr (put 20 τ (wr μ 62 2 0)) 289 0 (wp (τ 0 5))) 6 q = μ 282 q := by
        show wr (put 20 τ (wr μ 62 2 0)) 289 0 (wp (τ 0 5)) 282 q = μ 282 q
        rw [wr_na (by decide), put_o (by decide), wr_na (by decide)]
      rw [e, (pS q hq).2.1]
      exact (pS q hq).1
    · have eq : q = k := by omega
      subst eq
      obtain ⟨M, eM⟩ : ∃ M, M = wr (put 20 τ (wr μ 62 2 0)) 289 0 (wp (τ 0 5)) := ⟨_, rfl⟩
      rw [← eM]
      have m1 : ∀ b j, b < 20 ∨ (41 ≤ b ∧ b < 62) ∨ (62 < b ∧ b < 289) ∨ 290 ≤ b → M b j = μ b j := fun b j q => by rw [eM, wr_na (by omega), put_o (by omega), wr_na (by omega)]
      have m2 : ∀ r j, r < 21 → M (20 + r) j = τ r j := fun r j q => by rw [eM, wr_na (by omega), put_r q]
      have m3 : M 62 1 = μ 62 1 := by rw [eM, wr_na (by decide), put_o (by decide), wr_ni (by decide)]
      have m4 : M 62 2 = 0 := by rw [eM, wr_na (by decide), put_o (by decide), wr_s]
      obtain ⟨N, eN⟩ : ∃ N, N = md (wr (wr (vw 276 M) 0 7 0) 0 6 0) (cpn (M 277) (vw 276 M) 5 (418 * q) 418) M := ⟨_, rfl⟩
      rw [← eN]
      have z1 : ∀ b j, b < 276 ∨ 289 ≤ b → N b j = M b j := fun b j q => by rw [eN, md_o q]
      have z2 : ∀ b j, 276 ≤ b → b < 289 → b ≠ 277 → (b ≠ 276 ∨ (j ≠ 6 ∧ j ≠ 7)) → N b j = μ b j := fun b j h1 h2 h3 h5 => by
        have e : b = 276 + (b - 276) := by omega
        rw [e, eN, md_r (by omega) (by omega), wr_n (by omega), wr_n (by omega)]
        show M (276 + (b - 276)) j = μ (276 + (b - 276)) j
        exact m1 _ _ (by omega)
      have e6 : N 276 6 = 0 := by rw [eN]; exact (md_r (r := 0) (by decide) (by decide)).trans (wr_s _ _ _ _)
      have e7 : N 276 7 = 0 := by rw [eN]; exact (md_r (r := 0) (by decide) (by decide)).trans ((wr_ni (by decide)).trans (wr_s _ _ _ _))
      have n277 : ∀ j, j < 418 → N 277 j = μ 281 (418 * q + j) := fun j g => by
        rw [eN, md_n, cpn_e g]
        exact m1 281 _ (by omega)
      have zz : ∀ b j, hn1 b j → N b j = μ b j := fun b j g => by
        unfold hn1 at g
        by_cases g9 : 276 ≤ b ∧ b < 289
        · exact z2 b j g9.1 g9.2 (by omega) (by omega)
        · rw [z1 b j (by omega), m1 b j (by omega)]
      have esu := su_hn zz
      have e5 : vw 276 M 5 (418 * q + 7) = τ 0 5 := (m1 281 _ (by omega)).trans hR.2.1.1
      refine ⟨_, rfl, e7, ?_, fun _ => ⟨by rw [iI_wp, e5], by rw [z1 289 0 (by omega), eM, wr_s]⟩⟩
      refine inv_t h hC (rel_n a1 hC hR (fun j g => n277 j g)) (fun r j g => by rw [z1 _ _ (by omega), m2 r j g]) zz ?_ (kSl a1 esu (fun b j _ _ => by rw [z1 b j (by omega), m1 b j (by omega)]) (fun t => by rw [z1 _ _ (by omega), m1 _ _ (by omega)]) (fun t => z2 282 t (by omega) (by omega) (by omega) (by omega)) (fun j => z2 281 j (by omega) (by omega) (by omega) (by omega)) pS)
      exact ⟨n, hn, by rw [z1 _ _ (by omega), m3, w1], by rw [z1 _ _ (by omega), m4]; decide, by rw [z1 _ _ (by omega), m4]; decide, by rw [e6, z1 _ _ (by omega), m4], fun k' hk' => by rw [z1 _ _ (by omega), m4] at hk'; omega⟩
    · have eq : q = k := by omega
      subst eq
      have e : vw 276 (wr (put 20 τ (wr μ 62 2 0)) 289 0 (wp (τ 0 5))) 6 q = μ 282 q := by
        show wr (put 20 τ (wr μ 62 2 0)) 289 0 (wp (τ 0 5)) 282 q = μ 282 q
        rw [wr_na (by decide), put_o (by decide), wr_na (by decide)]
      rw [e, s2, hs] at hs2
      exact absurd hs2 (by decide)
  · rw [pvw]
    exact tok (by decide) (to_m (by decide) (m_restore ha (fun q hq => by rw [show vw 276 μ 6 q = μ 282 q from rfl, (pS q hq).2.1]; exact (pS q hq).1) (fun q hq hq2 _ => absurd (show _ ∧ _ from ⟨by omega, by omega⟩) hn) (fun _ => rdk h (by decide)) (fun q hq hq2 _ => absurd (show _ ∧ _ from ⟨by omega, by omega⟩) hn)))
  · rw [pvw]
    refine tok (by decide) (to_m (by decide) (m_restore ha (fun q hq => by rw [show vw 276 μ 6 q = μ 282 q from rfl, (pS q hq).2.1]; exact (pS q hq).1) (fun q hq hq2 hs2 => ?_) (fun hn => absurd (show _ ∧ _ from ⟨by omega, by omega⟩) hn) (fun _ _ _ _ => rdk h (by decide))))
    have eq : q = k := by omega
    subst eq
    rw [show vw 276 μ 6 q = μ 282 q from rfl, (pS q hq2).2.1, hs] at hs2
    exact absurd hs2 (by decide)
theorem T_save {a : Int} (h : INV μ) (ha : rng a) : Tw anyI mL_save mX11_save [.int (iI a)] μ := by
  obtain ⟨⟨a1, a2, a3⟩, pN, pT, pE, pH, pS, pO, pB, p24⟩ := inv_at h
  refine to_w (d := 8) (by decide) (by decide) (by decide) (W_save (to_c (g_save ha (fun k hk hk2 τ hτ => ?_) (fun hn => ⟨rfl, ?_⟩))))
  · refine vok (to_m (by decide) (m_save ha (fun q hq hq2 => ?_) (fun hn => absurd (show _ ∧ _ from ⟨by omega, by omega⟩) hn)))
    have eq : q = k := by omega
    subst eq
    obtain ⟨M, eM⟩ : ∃ M, M = wr (put 20 (vw 20 μ) (wr (put (233 + 21 * q) τ μ) 275 q 1)) 289 0 (wp (vw 20 μ 0 5)) := ⟨_, rfl⟩
    rw [← eM]
    have m1 : ∀ b j, b < 20 ∨ (41 ≤ b ∧ b < 289 ∧ (b < 233 + 21 * q ∨ 233 + 21 * q + 21 ≤ b) ∧ (b ≠ 275 ∨ j ≠ q)) ∨ 290 ≤ b → M b j = μ b j := fun b j g => by rw [eM, wr_na (by omega), put_o (by omega), wr_n (by omega), put_o (by omega)]
    have m2 : ∀ r j, r < 21 → M (20 + r) j = vw 20 μ r j := fun r j g => by rw [eM, wr_na (by omega), put_r g]
    have m3 : ∀ r j, r < 21 → M (233 + 21 * q + r) j = τ r j := fun r j g => by rw [eM, wr_na (by omega), put_o (by omega), wr_na (by omega), put_r g]
    have m4 : M 275 q = 1 := by rw [eM, wr_na (by decide), put_o (by decide), wr_s]
    have e277 : M 277 = μ 277 := funext (fun j => m1 277 j (by omega))
    obtain ⟨N, eN⟩ : ∃ N, N = md (wr (cpw (wr (vw 276 M) 0 7 0) 5 (418 * q) (M 277) 418) 6 q 1) (M 277) M := ⟨_, rfl⟩
    rw [← eN]
    have z1 : ∀ b j, b < 276 ∨ 289 ≤ b → N b j = M b j := fun b j g => by rw [eN, md_o g]
    have z2 : ∀ b j, 276 ≤ b → b < 289 → b ≠ 277 → (b ≠ 276 ∨ j ≠ 7) → (b ≠ 281 ∨ j < 418 * q ∨ 418 * q + 418 ≤ j) → (b ≠ 282 ∨ j ≠ q) → N b j = μ b j := fun b j h1 h2 h3 h5 h6 h7 => by
      have e : b = 276 + (b - 276) := by omega
      rw [e, eN, md_r (by omega) (by omega), wr_n (by omega), cpw_o (by omega), wr_n (by omega)]
      show M (276 + (b - 276)) j = μ (276 + (b - 276)) j
      exact m1 _ _ (by omega)
    have e7 : N 276 7 = 0 := by rw [eN]; exact (md_r (r := 0) (by decide) (by decide)).trans ((wr_na (by decide)).trans ((cpw_o (by omega)).trans (wr_s _ _ _ _)))
    have e6q : N 282 q = 1 := by rw [eN]; exact (md_r (r := 6) (by decide) (by decide)).trans (wr_s _ _ _ _)
    have e5 : ∀ j, j < 418 → N 281 (418 * q + j) = μ 277 j := fun j g => by
      rw [eN]
      refine (md_r (r := 5) (by decide) (by decide)).trans ?_
      rw [wr_na (by decide), cpw_e g, e277]
    have n277 : N 277 = μ 277 := funext (fun j => by rw [eN, md_n, e277])
    have zz : ∀ b j, hn1 b j → N b j = μ b j := fun b j g => by
      unfold hn1 at g
      by_cases g9 : 276 ≤ b ∧ b < 289
      · exact z2 b j g9.1 g9.2 (by omega) (by omega) (by omega) (by omega)
      · rw [z1 b j (by omega), m1 b j (by omega)]
    have esu := su_hn zz
    refine ⟨_, rfl, e7, ?_, fun _ => ⟨by rw [iI_wp, e277]; exact congrArg iI a3.2.1.1, by rw [z1 289 0 (by omega), eM, wr_s]⟩⟩
    refine inv_t h a2 (by rw [n277]; exact a3) (fun r j g => by rw [z1 _ _ (by omega), m2 r j g]) zz (kHs a1 esu (fun b j _ _ => by rw [z1 b j (by omega), m1 b j (by omega)]) (by rw [z1 _ _ (by omega), m1 _ _ (by omega)]) (by rw [z1 _ _ (by omega), m1 _ _ (by omega)]) (z2 276 6 (by omega) (by omega) (by omega) (by omega) (by omega) (by omega)) (fun j => z2 280 j (by omega) (by omega) (by omega) (by omega) (by omega) (by omega)) pH) ?_
    intro t ht
    obtain ⟨p1, p2, p3⟩ := pS t ht
    by_cases g : t = q
    · subst g
      rw [z1 275 t (by omega), m4, e6q, esu]
      have q9 : eqC (vw (233 + 21 * t) N) (vw 20 μ) := eqC_tr (eqC_of (fun r j hr => by show N _ j = τ r j; rw [z1 _ _ (by omega), m3 r j hr])) hτ
      exact ⟨Or.inr rfl, rfl, fun _ => ⟨wf_eq a1 a2 q9, rel_n a1 (wf_eq a1 a2 q9) (rel_eq a1 a2 a3 q9) (fun j hj => e5 j hj)⟩⟩
    · rw [z1 275 t (by omega), m1 275 t (by omega), z2 282 t (by omega) (by omega) (by omega) (by omega) (by omega) (by omega), esu]
      refine ⟨p1, p2, fun w => ?_⟩
      obtain ⟨g1, g2⟩ := p3 w
      have q9 : eqC (vw (233 + 21 * t) N) (vw (233 + 21 * t) μ) := eqC_of (fun r j hr => by show N _ j = μ _ j; rw [z1 _ _ (by omega), m1 _ _ (by omega)])
      exact ⟨wf_eq a1 g1 q9, rel_n a1 (wf_eq a1 g1 q9) (rel_eq a1 g1 g2 q9) (fun j hj => z2 281 _ (by omega) (by omega) (by omega) (by omega) (by omega) (by omega))⟩
  · rw [pvw]
    exact tok (by decide) (to_m (by decide) (m_save ha (fun q hq hq2 => absurd (show _ ∧ _ from ⟨by omega, by omega⟩) hn) (fun _ => rdk h (by decide))))
end Slots
