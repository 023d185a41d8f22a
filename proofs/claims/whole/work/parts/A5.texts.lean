/-! TEXTS: truncate, append, load, runScript -/
section Texts
variable {μ N : Mem}
theorem okT_c {f : Int → Int} {L : Nat} (h : okT f L μ) (h1 : N 1 1 = μ 1 1) (h2 : ∀ k, N 2 k = μ 2 k) : okT f L N := by
  obtain ⟨c1, c2, t0, t7, tb⟩ := h
  refine ⟨?_, h1.trans c2, by rw [h1]; exact t0, by rw [h1]; exact t7, fun k hk => by rw [h2 k]; exact tb k hk⟩
  rw [← c1]
  funext j
  unfold tx
  rw [h1, h2]
theorem okB_c {f : Int → Int} {L : Nat} {σ σ' : Mem} (h : okB f L σ) (h9 : σ' 0 9 = σ 0 9) (h7 : ∀ i : Nat, i < L → σ' 7 i = σ 7 i) : okB f L σ' :=
  ⟨h9.trans h.1, h.2.1, fun i hi => by rw [h7 i hi]; exact h.2.2.1 i hi, h.2.2.2⟩
theorem inv_x (hI : INV μ) (zz : ∀ b j, hng b j → b ≠ 1 → b ≠ 2 → b ≠ 283 → (b ≠ 276 ∨ j ≠ 9) → N b j = μ b j) (n277 : ∀ j, j < 418 → N 277 j = μ 277 j) (pT : iTx N) : INV N := by
  obtain ⟨⟨a1, a2, a3⟩, b, -, d, e, f, o, k, m⟩ := inv_at hI
  have eS : su N = su μ := su_f (fun b j h1 h2 => zz b j (by unfold hng; omega) (by omega) (by omega) (by omega) (by omega))
  refine inv_mk (kCh a1 a2 (rel_n a1 a2 a3 n277) eS (fun r j hr => zz _ _ (by unfold hng; omega) (by omega) (by omega) (by omega) (by omega))) (kNm eS b) pT (kEr ?_ ?_ ?_ ?_ d) (kHs a1 eS (fun b j _ _ => ?_) ?_ ?_ ?_ (fun i => ?_) e) (kSl a1 eS (fun b j _ _ => ?_) (fun i => ?_) (fun i => ?_) (fun i => ?_) f) (kOu ?_ (fun i => ?_) ?_ (fun i => ?_) o) (kBu ?_ ?_ ?_ k) ((?_ : N 276 24 = μ 276 24).trans m)
  all_goals exact zz _ _ (by unfold hng; omega) (by omega) (by omega) (by omega) (by omega)
theorem T_truncate {a : Int} (h : INV μ) (ha : rng a) : Tw anyI mL_truncate mX11_truncate [.int (iI a)] μ := by
  obtain ⟨f, L, ⟨c1, c2, t0, t7, tb⟩, d1, d2, d3, d4⟩ := (inv_at h).2.2.1
  have e9 : μ 276 9 = L := d1
  refine to_w (d := 8) (by decide) (by decide) (by decide) (W_truncate (to_c (g_truncate ha (fun hk => ?_) (fun hn => ⟨rfl, ?_⟩))))
  · have e9' : ∀ w, vw 276 (wr (put 20 (vw 20 μ) (wr μ 1 1 a)) 289 0 w) 0 9 = L := fun w => by
      show wr (put 20 (vw 20 μ) (wr μ 1 1 a)) 289 0 w 276 9 = L
      rw [wr_na (by decide), put_o (by decide), wr_na (by decide), e9]
    refine vok (to_m (by decide) (m_truncate ha (by rw [e9']; omega) (fun hk2 => ?_) (fun hn => absurd (show _ ∧ _ from ⟨hk.1, by rw [e9']; omega⟩) hn)))
    rw [e9']
    obtain ⟨M, eM⟩ : ∃ M, M = wr (put 20 (vw 20 μ) (wr μ 1 1 a)) 289 0 (wp (μ 1 1 - a)) := ⟨_, rfl⟩
    rw [← eM, md_f2]
    have m1 : ∀ b j, (b ≠ 1 ∨ j ≠ 1) → b ≠ 289 → M b j = μ b j := fun b j q q2 => by
      rw [eM, wr_na q2]
      by_cases g : 20 ≤ b ∧ b < 41
      · have e : b = 20 + (b - 20) := by omega
        rw [e, put_r (by omega)]
        rfl
      · rw [put_o (by omega), wr_n (by omega)]
    have m2 : M 1 1 = a := by rw [eM, wr_na (by decide), put_o (by decide), wr_s]
    obtain ⟨N, eN⟩ : ∃ N, N = wr (wr M 276 7 0) 276 9 a := ⟨_, rfl⟩
    rw [← eN]
    have z1 : ∀ b j, (b ≠ 276 ∨ (j ≠ 7 ∧ j ≠ 9)) → N b j = M b j := fun b j q => by rw [eN, wr_n (by omega), wr_n (by omega)]
    refine ⟨_, rfl, by rw [eN, wr_ni (by decide), wr_s], ?_, fun _ => ⟨by rw [iI_wp, c2], by rw [z1 _ _ (by omega), eM, wr_s]⟩⟩
    refine inv_x h (fun b j q q1 q2 q3 q4 => ?_) (fun j _ => by rw [z1 _ _ (by omega), m1 _ _ (by omega) (by omega)]) ?_
    · unfold hng at q
      rw [z1 _ _ (by omega), m1 _ _ (by omega) (by omega)]
    · obtain ⟨n, hn⟩ := Int.eq_ofNat_of_zero_le hk.1
      refine ⟨fun i => if 0 ≤ i ∧ i < a then f i else 0, n, ⟨?_, ?_, ?_, ?_, ?_⟩, ?_, by omega, fun i hi => ?_, ?_⟩
      · funext j
        unfold tx
        rw [z1 1 1 (by omega), m2, z1 2 _ (by omega), m1 2 _ (by omega) (by omega)]
        by_cases g : 0 ≤ j ∧ j < a
        · rw [if_pos g, if_pos g, ← c1]
          unfold tx
          rw [if_pos ⟨g.1, by omega⟩]
        · rw [if_neg g, if_neg g]
      · rw [z1 1 1 (by omega), m2, hn]
      · rw [z1 1 1 (by omega), m2]; omega
      · rw [z1 1 1 (by omega), m2]; omega
      · intro k hk
        rw [z1 2 _ (by omega), m1 2 _ (by omega) (by omega)]
        exact tb k hk
      · show N 276 9 = n
        rw [eN, wr_s, hn]
      · have e : vw 276 N 7 i = vw 276 μ 7 i := by
          show N 283 i = μ 283 i
          rw [z1 _ _ (by omega), m1 _ _ (by omega) (by omega)]
        rw [e]
        show _ = (if 0 ≤ (i : Int) ∧ (i : Int) < a then f i else 0) ∧ 1 ≤ (if 0 ≤ (i : Int) ∧ (i : Int) < a then f i else 0) ∧ (if 0 ≤ (i : Int) ∧ (i : Int) < a then f i else 0) < 256
        rw [if_pos ⟨by omega, by omega⟩]
        exact d3 i (by omega)
      · show (if 0 ≤ (n : Int) ∧ (n : Int) < a then f n else 0) = 0
        rw [if_neg (by omega)]
  · rw [pvw]
    have e9' : vw 276 μ 0 9 = L := d1
    exact tok (by decide) (to_m (by decide) (m_truncate ha (by rw [e9']; omega) (fun hk2 => absurd (show _ ∧ _ from ⟨hk2.1, by rw [e9'] at hk2; omega⟩) hn) (fun _ => rdk h (by decide))))
/-! append -/
theorem ap1 {f : Int → Int} {L : Nat} {σ : Mem} {b : Int} (h1 : okT f L μ) (h2 : okB f L σ) (hb : 0 ≤ b ∧ b < 256) (hL : (L : Int) + (if b = 0 then 0 else 1) ≤ 700) : ∃ (f' : Int → Int) (L' : Nat), okT f' L' (pt1 μ b) ∧ okB f' L' (fd1 σ b) ∧ (L' : Int) = L + (if b = 0 then 0 else 1) := by
  by_cases g : b = 0
  · refine ⟨f, L, ?_, ?_, by rw [if_pos g]; omega⟩
    · unfold pt1
      rw [if_neg (fun w => w.1 g)]
      exact h1
    · unfold fd1
      rw [if_pos g]
      exact h2
  · rw [if_neg g] at hL
    have hT := wfT_pt1 (b := b) hb h1.2.2
    obtain ⟨c1, c2, t0, t7, tb⟩ := h1
    obtain ⟨d1, d2, d3, d4⟩ := h2
    have e1 : pt1 μ b = wr (wr μ 2 L (sb b)) 1 1 (L + 1) := by
      unfold pt1
      rw [if_pos ⟨g, by omega⟩, c2, Int.toNat_natCast]
    have e2 : fd1 σ b = wr (wr σ 7 L b) 0 9 (L + 1) := by
      unfold fd1
      rw [if_neg g, d1, if_pos (by omega), Int.toNat_natCast]
    refine ⟨fun i => if i = L then b else f i, L + 1, ⟨?_, ?_, hT⟩, ⟨?_, by omega, fun i hi => ?_, ?_⟩, by rw [if_neg g]; omega⟩
    · funext j
      rw [e1]
      unfold tx
      rw [wr_s, wr_na (by decide)]
      by_cases q : j = L
      · subst q
        rw [if_pos ⟨by omega, by omega⟩, Int.toNat_natCast, wr_s, ub_sb hb, if_pos rfl]
      · rw [if_neg q, ← c1]
        unfold tx
        rw [c2]
        by_cases q2 : 0 ≤ j ∧ j < (L : Int)
        · rw [if_pos q2, if_pos ⟨q2.1, by omega⟩, wr_ni (by omega)]
        · rw [if_neg q2, if_neg (by omega)]
    · rw [e1, wr_s]
      omega
    · rw [e2, wr_s]
      omega
    · rw [e2, wr_na (by decide)]
      show _ = (if (i : Int) = L then b else f i) ∧ 1 ≤ (if (i : Int) = L then b else f i) ∧ (if (i : Int) = L then b else f i) < 256
      by_cases q : i = L
      · subst q
        rw [wr_s, if_pos rfl]
        omega
      · rw [wr_ni q, if_neg (by omega)]
        exact d3 i (by omega)
    · show (if ((L + 1 : Nat) : Int) = L then b else f ((L + 1 : Nat) : Int)) = 0
      rw [if_neg (by omega), ← c1]
      unfold tx
      rw [if_neg (by omega)]
theorem ap4 {w : Int} : ∀ (j : Nat) {f : Int → Int} {L : Nat} {σ μ : Mem}, okT f L μ → okB f L σ → (L : Int) + nbk w j ≤ 700 → ∃ (f' : Int → Int) (L' : Nat), okT f' L' (pbk w j μ) ∧ okB f' L' (fdk w j σ) ∧ (L' : Int) = L + nbk w j
  | 0, f, L, σ, μ, h1, h2, h3 => ⟨f, L, h1, h2, by rw [nbk]; omega⟩
  | j + 1, f, L, σ, μ, h1, h2, h3 => by
    have hb := byt_b w (8 * j)
    have hn := nbk_b w j
    rw [nbk] at h3
    have ei : (if ((byt w (8 * j) : Nat) : Int) = 0 then (0 : Int) else 1) = if byt w (8 * j) = 0 then 0 else 1 := by
      by_cases g : byt w (8 * j) = 0
      · rw [if_pos g, if_pos (by omega)]
      · rw [if_neg g, if_neg (by omega)]
    obtain ⟨f1, L1, g1, g2, g3⟩ := ap1 (b := (byt w (8 * j) : Nat)) h1 h2 (by omega) (by rw [ei]; omega)
    rw [ei] at g3
    obtain ⟨f2, L2, k1, k2, k3⟩ := ap4 (w := w) j g1 g2 (by omega)
    exact ⟨f2, L2, k1, k2, by rw [nbk]; omega⟩
theorem ap5 {a b c d e : Int} {f : Int → Int} {L : Nat} {σ : Mem} (h1 : okT f L μ) (h2 : okB f L σ) (h3 : (L : Int) + nba a b c d e ≤ 700) : ∃ (f' : Int → Int) (L' : Nat), okT f' L' (pba a b c d e μ) ∧ okB f' L' (fda a b c d e σ) ∧ (L' : Int) = L + nba a b c d e := by
  have na := nbk_b a 4
  have nb := nbk_b b 4
  have nc := nbk_b c 4
  have nd := nbk_b d 4
  have ne := nbk_b e 4
  unfold nba at h3 ⊢
  obtain ⟨f1, L1, a1, a2, a3⟩ := ap4 (w := a) 4 h1 h2 (by omega)
  obtain ⟨f2, L2, b1, b2, b3⟩ := ap4 (w := b) 4 a1 a2 (by omega)
  obtain ⟨f3, L3, c1, c2, c3⟩ := ap4 (w := c) 4 b1 b2 (by omega)
  obtain ⟨f4, L4, d1, d2, d3⟩ := ap4 (w := d) 4 c1 c2 (by omega)
  obtain ⟨f5, L5, e1, e2, e3⟩ := ap4 (w := e) 4 d1 d2 (by omega)
  exact ⟨f5, L5, e1, e2, by omega⟩
theorem pt1_o {b : Int} {r j : Nat} (h : r ≠ 1 ∧ r ≠ 2) : pt1 μ b r j = μ r j := by
  unfold pt1
  split
  · rw [wr_na h.1, wr_na h.2]
  · rfl
theorem pbk_o {w : Int} {r i : Nat} (h : r ≠ 1 ∧ r ≠ 2) : ∀ (j : Nat) (μ : Mem), pbk w j μ r i = μ r i
  | 0, _ => rfl
  | j + 1, μ => by rw [pbk, pbk_o h j, pt1_o h]
theorem pba_o {a b c d e : Int} {r i : Nat} (h : r ≠ 1 ∧ r ≠ 2) : pba a b c d e μ r i = μ r i := by
  unfold pba
  rw [pbk_o h, pbk_o h, pbk_o h, pbk_o h, pbk_o h]
theorem fda_o {a b c d e : Int} {σ : Mem} {r i : Nat} (h : r ≠ 7 ∧ (r ≠ 0 ∨ i ≠ 9)) : fda a b c d e σ r i = σ r i := by
  unfold fda
  rw [fdk_o h, fdk_o h, fdk_o h, fdk_o h, fdk_o h]
theorem fd1_7 {σ : Mem} {b : Int} {i : Nat} (h : (i : Int) < σ 0 9) : fd1 σ b 7 i = σ 7 i := by
  unfold fd1
  split
  · rfl
  · rw [wr_na (by decide)]
    split
    · rw [wr_ni (by omega)]
    · rfl
theorem fd1_9' {σ : Mem} {b : Int} : σ 0 9 ≤ fd1 σ b 0 9 := by
  by_cases g : b = 0
  · unfold fd1
    rw [if_pos g]
    exact Int.le_refl _
  · rw [fd1_9 g]
    omega
theorem fdk_7 {w : Int} {i : Nat} : ∀ (j : Nat) (σ : Mem), (i : Int) < σ 0 9 → fdk w j σ 7 i = σ 7 i ∧ (i : Int) < fdk w j σ 0 9
  | 0, _, h => ⟨rfl, h⟩
  | j + 1, σ, h => by
    have h9 := fd1_9' (σ := σ) (b := (byt w (8 * j) : Nat))
    obtain ⟨g1, g2⟩ := fdk_7 (w := w) (i := i) j (fd1 σ (byt w (8 * j) : Nat)) (by omega)
    rw [fdk]
    exact ⟨g1.trans (fd1_7 h), g2⟩
theorem fda_7 {a b c d e : Int} {σ : Mem} {i : Nat} (h : (i : Int) < σ 0 9) : fda a b c d e σ 7 i = σ 7 i := by
  obtain ⟨a1, a2⟩ := fdk_7 (w := a) 4 σ h
  obtain ⟨b1, b2⟩ := fdk_7 (w := b) 4 _ a2
  obtain ⟨c1, c2⟩ := fdk_7 (w := c) 4 _ b2
  obtain ⟨d1, d2⟩ := fdk_7 (w := d) 4 _ c2
  obtain ⟨e1, e2⟩ := fdk_7 (w := e) 4 _ d2
  unfold fda
  rw [e1, d1, c1, b1, a1]
theorem T_append {a b c d e : Int} (h : INV μ) : Tw anyI mL_append mX11_append [.int (iI a), .int (iI b), .int (iI c), .int (iI d), .int (iI e)] μ := by
  obtain ⟨f, L, ⟨c1, c2, t0, t7, tb⟩, d1, d2, d3, d4⟩ := (inv_at h).2.2.1
  have oT : okT f L μ := ⟨c1, c2, t0, t7, tb⟩
  have oB : okB f L (vw 276 μ) := ⟨d1, d2, d3, d4⟩
  have n0 : 0 ≤ nba a b c d e := by
    have na := nbk_b a 4
    have nb := nbk_b b 4
    have nc := nbk_b c 4
    have nd := nbk_b d 4
    have ne := nbk_b e 4
    unfold nba
    omega
  refine to_w (d := 8) (by decide) (by decide) (by decide) (W_append (to_c (g_append ⟨t0, t7, tb⟩ (fun hk => ?_) (fun hn => ⟨rfl, ?_⟩))))
  · refine vok (to_m (d := 1) (by decide) ?_)
    obtain ⟨M, eM⟩ : ∃ M, M = wr (put 20 (vw 20 μ) (pba a b c d e μ)) 289 0 (wp (pba a b c d e μ 1 1)) := ⟨_, rfl⟩
    rw [← eM]
    have m1 : ∀ b j, b ≠ 1 → b ≠ 2 → b ≠ 289 → M b j = μ b j := fun b j q1 q2 q3 => by
      rw [eM, wr_na q3]
      by_cases g : 20 ≤ b ∧ b < 41
      · have e : b = 20 + (b - 20) := by omega
        rw [e, put_r (by omega)]
        rfl
      · rw [put_o (by omega), pba_o ⟨q1, q2⟩]
    have m2 : ∀ r j, r < 20 → M r j = pba a b c d e μ r j := fun r j q => by rw [eM, wr_na (by omega), put_o (by omega)]
    have oB' : okB f L (wr (vw 276 M) 0 7 0) := okB_c oB (by rw [wr_ni (by decide)]; exact m1 276 9 (by omega) (by omega) (by omega)) (fun i _ => by rw [wr_na (by decide)]; exact m1 283 i (by omega) (by omega) (by omega))
    obtain ⟨f', L', g1, g2, g3⟩ := ap5 (a := a) (b := b) (c := c) (d := d) (e := e) oT oB' (by rw [c2] at hk; exact hk)
    refine m_append (u := L) ((m1 276 9 (by omega) (by omega) (by omega)).trans d1) d2 (fun hk2 => ?_) (fun hn => absurd hn (by omega))
    obtain ⟨N, eN⟩ : ∃ N, N = md (fda a b c d e (wr (vw 276 M) 0 7 0)) (M 277) M := ⟨_, rfl⟩
    rw [← eN]
    have z1 : ∀ b j, b < 276 ∨ 289 ≤ b → N b j = M b j := fun b j g => by rw [eN, md_o g]
    have z3 : ∀ r j, r < 13 → r ≠ 1 → N (276 + r) j = fda a b c d e (wr (vw 276 M) 0 7 0) r j := fun r j h1 h2 => by rw [eN, md_r h1 h2]
    have z2 : ∀ b j, 276 ≤ b → b < 289 → b ≠ 277 → b ≠ 283 → (b ≠ 276 ∨ (j ≠ 7 ∧ j ≠ 9)) → N b j = μ b j := fun b j h1 h2 h3 h4 h5 => by
      have e : b = 276 + (b - 276) := by omega
      rw [e, z3 _ _ (by omega) (by omega), fda_o (by omega), wr_n (by omega)]
      exact m1 (276 + (b - 276)) j (by omega) (by omega) (by omega)
    have e7 : N 276 7 = 0 := by rw [show N 276 7 = N (276 + 0) 7 from rfl, z3 0 7 (by decide) (by decide), fda_o (by decide), wr_s]
    refine ⟨_, rfl, e7, ?_, fun _ => ⟨by rw [iI_wp, g1.2.1, g3], by rw [z1 289 0 (by omega), eM, wr_s]⟩⟩
    refine inv_x h (fun b j q q1 q2 q3 q4 => ?_) (fun j _ => by rw [eN, md_n]; exact m1 277 j (by omega) (by omega) (by omega)) ⟨f', L', okT_c g1 (by rw [z1 1 1 (by omega), m2 1 1 (by omega)]) (fun k => by rw [z1 2 k (by omega), m2 2 k (by omega)]), okB_c g2 (z3 0 9 (by decide) (by decide)) (fun i _ => z3 7 i (by decide) (by decide))⟩
    unfold hng at q
    by_cases g9 : 276 ≤ b ∧ b < 289
    · exact z2 b j g9.1 g9.2 (by omega) (by omega) (by omega)
    · rw [z1 b j (by omega), m1 b j (by omega) (by omega) (by omega)]
  · rw [pvw]
    refine tok (by decide) (to_m (by decide) (m_append (u := L) d1 d2 (fun hk2 => absurd hn (by omega)) (fun _ => ?_)))
    obtain ⟨N, eN⟩ : ∃ N, N = md (wr (wr (fda a b c d e (wr (vw 276 μ) 0 7 0)) 0 7 1) 0 9 (L : Nat)) (μ 277) μ := ⟨_, rfl⟩
    rw [← eN]
    have z1 : ∀ b j, b < 276 ∨ 289 ≤ b → N b j = μ b j := fun b j g => by rw [eN, md_o g]
    have z3 : ∀ r j, r < 13 → r ≠ 1 → N (276 + r) j = wr (wr (fda a b c d e (wr (vw 276 μ) 0 7 0)) 0 7 1) 0 9 (L : Nat) r j := fun r j h1 h2 => by rw [eN, md_r h1 h2]
    have z2 : ∀ b j, 276 ≤ b → b < 289 → b ≠ 277 → b ≠ 283 → (b ≠ 276 ∨ (j ≠ 7 ∧ j ≠ 9)) → N b j = μ b j := fun b j h1 h2 h3 h4 h5 => by
      have e : b = 276 + (b - 276) := by omega
      rw [e, z3 _ _ (by omega) (by omega), wr_n (by omega), wr_n (by omega), fda_o (by omega), wr_n (by omega)]
      rfl
    refine ⟨0, rfl, ?_, ?_, fun w => absurd w (by decide)⟩
    · rw [show N 276 7 = N (276 + 0) 7 from rfl, z3 0 7 (by decide) (by decide), wr_ni (by decide), wr_s]
    · refine inv_x h (fun b j q q1 q2 q3 q4 => ?_) (fun j _ => by rw [eN, md_n]) ⟨f, L, okT_c oT (z1 1 1 (by omega)) (fun k => z1 2 k (by omega)), okB_c oB ?_ (fun i hi => ?_)⟩
      · unfold hng at q
        by_cases g9 : 276 ≤ b ∧ b < 289
        · exact z2 b j g9.1 g9.2 (by omega) (by omega) (by omega)
        · rw [z1 b j (by omega)]
      · refine (z3 0 9 (by decide) (by decide)).trans ?_
        rw [wr_s, d1]
      · refine (z3 7 i (by decide) (by decide)).trans ?_
        rw [wr_na (by decide), wr_na (by decide), fda_7 (by rw [wr_ni (by decide), d1]; omega), wr_na (by decide)]
end Texts
