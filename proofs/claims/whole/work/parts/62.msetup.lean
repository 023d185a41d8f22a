/-! THE MODEL READS A SETUP: its row beside the class's draft -/
theorem mus_a {s : Sta} {p : Prop} [Decidable p] {i : Int} : mus s (s.2.1 = 0 ∧ p) i = mus s p i := by
  by_cases g : s.2.1 = 0
  · exact mus_e ⟨fun w => w.2, fun w => ⟨g, w⟩⟩
  · rw [mus_c g, mus_c g]
theorem mus_oo {s : Sta} {p r : Prop} [Decidable p] [Decidable r] {i : Int} (h : s.2.1 = 0 → (p ↔ r)) : mus s p i = mus s r i := by
  by_cases g : s.2.1 = 0
  · exact mus_e (h g)
  · rw [mus_c g, mus_c g]
theorem tkT_0 {f : Int → Int} {b : Nat} : tkT f b = 0 ↔ tkK f b = 0 := by
  unfold tkT
  by_cases g : tkK f b = 3
  · rw [if_pos g]
    split <;> omega
  · rw [if_neg g]
theorem tkT_b {f : Int → Int} {b : Nat} : 0 ≤ tkT f b ∧ tkT f b ≤ 4 := by
  have kb : 0 ≤ tkK f b ∧ tkK f b ≤ 4 := kd_b _
  unfold tkT
  (repeat' split) <;> omega
/-- a name that stands there isn't empty -/
theorem p32_p {f : Int → Int} : ∀ (m p : Nat) (v : Int), ltr f m p = true → 0 ≤ v → (0 < v ∨ 0 < m) → 0 < p32 f m p v
  | 0, p, v, _, _, h => by rw [p32]; omega
  | m + 1, p, v, hl, h0, _ => by
    rw [ltr] at hl
    by_cases g : kd (f (p : Int)) = 1
    · rw [if_pos g] at hl
      have h := kd_1.mp g
      rw [p32]
      exact p32_p m (p + 1) _ hl (by omega) (Or.inl (by omega))
    · rw [if_neg g] at hl
      exact absurd hl (by decide)
theorem tkE_1 {f : Int → Int} {L b : Nat} (hb : b ≤ L) (h0 : f (L : Nat) = 0) (hk : tkK f b = 1) : b < tkE f L b := by
  have hl : b < L := by
    by_cases g : b = L
    · unfold tkK at hk
      rw [g, h0] at hk
      exact absurd hk (by decide)
    · omega
  have hE : tkE f L b = rnn f 1 (L - b) b := by unfold tkE; rw [if_neg (by omega), if_pos (by omega), hk]
  rw [hE]
  obtain ⟨n, en⟩ : ∃ n, L - b = n + 1 := ⟨L - b - 1, by omega⟩
  rw [en, rnn, if_pos (show kd (f (b : Int)) = 1 from hk)]
  have := rnn_b (f := f) (k := 1) n (b + 1)
  omega
theorem nbt_p {f : Int → Int} {L : Nat} {s : Sta} (hb : s.1 ≤ L) (h0 : f (L : Nat) = 0) (h : (nms f L s).2.1 = 0) : 0 < nbt f s.1 (tkE f L s.1) := by
  obtain ⟨-, k, h6⟩ := nms_0 h
  have hl := ltr_tk (f := f) (L := L) (b := s.1) k
  have h1 := tkE_1 hb h0 k
  unfold nbt
  rw [if_neg (by omega), if_pos hl]
  exact p32_p _ _ 0 hl (by decide) (Or.inr (by omega))
def bg0 (j : Nat) : Int := if j = 362 ∨ j = 367 ∨ j = 372 ∨ j = 377 then -1 else 0
theorem bgn_e {ν : Nat → Int} {j : Nat} (hj : j < 418) : bgn ν j = bg0 j := by
  unfold bgn bg0
  simp only [zc, wv, zr]
  (repeat' split) <;> first | rfl | omega
/-- the model's row holds what the draft tells, all else is new -/
def rls (τ : Mem) (ν : Nat → Int) : Prop :=
  (ν 0 = τ 15 0 ∧ ν 1 = τ 15 1 ∧ ν 2 = τ 15 2 ∧ ν 3 = τ 15 3 ∧ ν 4 = τ 15 4 ∧ ν 5 = τ 15 5 ∧ ν 6 = τ 15 6 ∧ ν 8 = τ 15 7 ∧ ν 16 = smf (fun m => τ 19 m) (τ 15 7).toNat) ∧
  (∀ m : Nat, (m : Int) < τ 15 7 → ν (18 + 6 * m + 0) = n27 (τ 16 m) ∧ ν (18 + 6 * m + 1) = τ 17 m ∧ ν (18 + 6 * m + 2) = τ 18 m ∧ ν (18 + 6 * m + 3) = τ 19 m ∧ ν (18 + 6 * m + 4) = 5 ∧ ν (18 + 6 * m + 5) = 0) ∧
  (∀ j : Nat, j < 418 → (j = 7 ∨ (9 ≤ j ∧ j < 16) ∨ j = 17 ∨ 90 ≤ j ∨ (18 + 6 * (τ 15 7).toNat ≤ j)) → ν j = bg0 j)
def wfD (τ : Mem) : Prop := (0 ≤ τ 15 7 ∧ τ 15 7 ≤ 12) ∧ (1 ≤ τ 15 0 ∧ τ 15 0 ≤ 4 ∧ 0 ≤ τ 15 1 ∧ τ 15 1 ≤ 5 ∧ 1 ≤ τ 15 2 ∧ τ 15 2 ≤ 20 ∧ 0 ≤ τ 15 3 ∧ τ 15 3 ≤ 20 ∧ 2 ≤ τ 15 4 ∧ τ 15 4 ≤ 30 ∧ 0 ≤ τ 15 5 ∧ τ 15 5 ≤ 9 ∧ 0 ≤ τ 15 6 ∧ τ 15 6 ≤ 12) ∧
  ∀ m : Nat, (m : Int) < τ 15 7 → isn 6 (τ 16 m) ∧ 0 < τ 16 m ∧ 1 ≤ τ 17 m ∧ τ 17 m ≤ 9 ∧ 0 ≤ τ 18 m ∧ τ 18 m ≤ 20 ∧ 0 ≤ τ 19 m ∧ τ 19 m ≤ 99
section Mwr
variable {f : Int → Int} {L : Nat} {s : Sta} {τ : Mem}
theorem mwr_7 : mwr f L s τ 15 7 = τ 15 7 + 1 := by unfold mwr; rw [wr_s]
theorem mwr_h {j : Nat} (h : j < 7) : mwr f L s τ 15 j = τ 15 j := by
  unfold mwr
  rw [wr_ni (by omega), wr_na (by decide), wr_na (by decide), wr_na (by decide), wr_na (by decide)]
theorem mwr_16 {m : Nat} : mwr f L s τ 16 m = if m = (τ 15 7).toNat then mqn f L s τ else τ 16 m := by
  unfold mwr
  rw [wr_na (by decide), wr_na (by decide), wr_na (by decide), wr_na (by decide)]
  by_cases g : m = (τ 15 7).toNat
  · rw [if_pos g, g, wr_s]
  · rw [if_neg g, wr_ni g]
theorem mwr_17 {m : Nat} : mwr f L s τ 17 m = if m = (τ 15 7).toNat then nmv f L (mq2 f L s τ).1 else τ 17 m := by
  unfold mwr
  rw [wr_na (by decide), wr_na (by decide), wr_na (by decide)]
  by_cases g : m = (τ 15 7).toNat
  · rw [if_pos g, g, wr_s]
  · rw [if_neg g, wr_ni g, wr_na (by decide)]
theorem mwr_18 {m : Nat} : mwr f L s τ 18 m = if m = (τ 15 7).toNat then nmv f L (mq3 f L s τ).1 else τ 18 m := by
  unfold mwr
  rw [wr_na (by decide), wr_na (by decide)]
  by_cases g : m = (τ 15 7).toNat
  · rw [if_pos g, g, wr_s]
  · rw [if_neg g, wr_ni g, wr_na (by decide), wr_na (by decide)]
theorem mwr_19 {m : Nat} : mwr f L s τ 19 m = if m = (τ 15 7).toNat then nmv f L (mq4 f L s τ).1 else τ 19 m := by
  unfold mwr
  rw [wr_na (by decide)]
  by_cases g : m = (τ 15 7).toNat
  · rw [if_pos g, g, wr_s]
  · rw [if_neg g, wr_ni g, wr_na (by decide), wr_na (by decide), wr_na (by decide)]
theorem gm_1 {i : Int} {p : Prop} [Decidable p] (hs : s.1 ≤ L) (h0 : f (L : Nat) = 0) : (gon f L (mus s p i)).1 ≤ L := by
  unfold gon
  split
  · show nxt f L (mus s p i).1 ≤ L
    rw [mus_1]
    exact (nxt_b hs h0).2
  · rw [mus_1]; exact hs
theorem wfD_mst (hs : (mq1 f L s τ).1 ≤ L) (h0 : f (L : Nat) = 0) (h : wfD τ) (g : (mq6 f L s τ).2.1 = 0) : wfD (mwr f L s τ) := by
  obtain ⟨⟨n0, n12⟩, hh, hm⟩ := h
  obtain ⟨g5, g4, g3, g2, g1, gs, gn⟩ := mq_0 g
  have b5 := (num3_0 g5).2.2
  have b4 := (num3_0 g4).2.2
  have b3 := (num3_0 g3).2.2
  have gm := gm_0 (show (3 : Int) ≠ 0 by decide) g2
  refine ⟨by rw [mwr_7]; omega, by rw [mwr_h (by decide), mwr_h (by decide), mwr_h (by decide), mwr_h (by decide), mwr_h (by decide), mwr_h (by decide), mwr_h (by decide)]; exact hh, fun m hlt => ?_⟩
  rw [mwr_7] at hlt
  rw [mwr_16, mwr_17, mwr_18, mwr_19]
  by_cases e : m = (τ 15 7).toNat
  · rw [if_pos e, if_pos e, if_pos e, if_pos e]
    refine ⟨isn_nbt, nbt_p hs h0 gm.1, ?_⟩
    omega
  · rw [if_neg e, if_neg e, if_neg e, if_neg e]
    exact hm m (by omega)
theorem rls_mst {ν : Nat → Int} (hn : 0 ≤ τ 15 7 ∧ τ 15 7 < 12) (h : rls τ ν) {n : Nat} (en : (n : Int) = τ 15 7) {a b c d : Int} (ea : a = n27 (mqn f L s τ)) (eb : b = nmv f L (mq2 f L s τ).1) (ec : c = nmv f L (mq3 f L s τ).1) (ed : d = nmv f L (mq4 f L s τ).1) :
    rls (mwr f L s τ) (wv (wv (wv (wv (wv (wv (wv ν (18 + 6 * n + 0) a) (18 + 6 * n + 1) b) (18 + 6 * n + 2) c) (18 + 6 * n + 3) d) (18 + 6 * n + 4) 5) 16 (ν 16 + d)) 8 (ν 8 + 1)) := by
  obtain ⟨⟨a0, a1, a2, a3, a4, a5, a6, a8, a16⟩, hm, ho⟩ := h
  have e1 : (τ 15 7).toNat = n := by omega
  have h7 : (mwr f L s τ 15 7).toNat = n + 1 := by rw [mwr_7]; omega
  refine ⟨⟨?_, ?_, ?_, ?_, ?_, ?_, ?_, ?_, ?_⟩, fun m hlt => ?_, fun j hj hj2 => ?_⟩
  · rw [mwr_h (by decide), ← a0]; rw [wv_n (by omega), wv_n (by omega), wv_n (by omega), wv_n (by omega), wv_n (by omega), wv_n (by omega), wv_n (by omega)]
  · rw [mwr_h (by decide), ← a1]; rw [wv_n (by omega), wv_n (by omega), wv_n (by omega), wv_n (by omega), wv_n (by omega), wv_n (by omega), wv_n (by omega)]
  · rw [mwr_h (by decide), ← a2]; rw [wv_n (by omega), wv_n (by omega), wv_n (by omega), wv_n (by omega), wv_n (by omega), wv_n (by omega), wv_n (by omega)]
  · rw [mwr_h (by decide), ← a3]; rw [wv_n (by omega), wv_n (by omega), wv_n (by omega), wv_n (by omega), wv_n (by omega), wv_n (by omega), wv_n (by omega)]
  · rw [mwr_h (by decide), ← a4]; rw [wv_n (by omega), wv_n (by omega), wv_n (by omega), wv_n (by omega), wv_n (by omega), wv_n (by omega), wv_n (by omega)]
  · rw [mwr_h (by decide), ← a5]; rw [wv_n (by omega), wv_n (by omega), wv_n (by omega), wv_n (by omega), wv_n (by omega), wv_n (by omega), wv_n (by omega)]
  · rw [mwr_h (by decide), ← a6]; rw [wv_n (by omega), wv_n (by omega), wv_n (by omega), wv_n (by omega), wv_n (by omega), wv_n (by omega), wv_n (by omega)]
  · rw [wv_s, mwr_7, a8]
  · rw [wv_n (by omega), wv_s, h7, smf, a16, e1, mwr_19, e1, if_pos rfl, ed]
    congr 1
    refine smf_cong (fun k hk => ?_)
    rw [mwr_19, e1, if_neg (by omega)]
  · rw [mwr_7] at hlt
    rw [mwr_16, mwr_17, mwr_18, mwr_19, e1]
    by_cases e : m = n
    · subst e
      rw [if_pos rfl, if_pos rfl, if_pos rfl, if_pos rfl]
      refine ⟨?_, ?_, ?_, ?_, ?_, ?_⟩
      · rw [wv_n (by omega), wv_n (by omega), wv_n (by omega), wv_n (by omega), wv_n (by omega), wv_n (by omega), wv_s]; exact ea
      · rw [wv_n (by omega), wv_n (by omega), wv_n (by omega), wv_n (by omega), wv_n (by omega), wv_s]; exact eb
      · rw [wv_n (by omega), wv_n (by omega), wv_n (by omega), wv_n (by omega), wv_s]; exact ec
      · rw [wv_n (by omega), wv_n (by omega), wv_n (by omega), wv_s]; exact ed
      · rw [wv_n (by omega), wv_n (by omega), wv_s]
      · rw [wv_n (by omega), wv_n (by omega), wv_n (by omega), wv_n (by omega), wv_n (by omega), wv_n (by omega), wv_n (by omega), ho _ (by omega) (by omega)]
        unfold bg0
        rw [if_neg (by omega)]
    · rw [if_neg e, if_neg e, if_neg e, if_neg e]
      have h9 := hm m (by omega)
      refine ⟨?_, ?_, ?_, ?_, ?_, ?_⟩
      · rw [wv_n (by omega), wv_n (by omega), wv_n (by omega), wv_n (by omega), wv_n (by omega), wv_n (by omega), wv_n (by omega)]; exact h9.1
      · rw [wv_n (by omega), wv_n (by omega), wv_n (by omega), wv_n (by omega), wv_n (by omega), wv_n (by omega), wv_n (by omega)]; exact h9.2.1
      · rw [wv_n (by omega), wv_n (by omega), wv_n (by omega), wv_n (by omega), wv_n (by omega), wv_n (by omega), wv_n (by omega)]; exact h9.2.2.1
      · rw [wv_n (by omega), wv_n (by omega), wv_n (by omega), wv_n (by omega), wv_n (by omega), wv_n (by omega), wv_n (by omega)]; exact h9.2.2.2.1
      · rw [wv_n (by omega), wv_n (by omega), wv_n (by omega), wv_n (by omega), wv_n (by omega), wv_n (by omega), wv_n (by omega)]; exact h9.2.2.2.2.1
      · rw [wv_n (by omega), wv_n (by omega), wv_n (by omega), wv_n (by omega), wv_n (by omega), wv_n (by omega), wv_n (by omega)]; exact h9.2.2.2.2.2
  · rw [h7] at hj2
    rw [wv_n (by omega), wv_n (by omega), wv_n (by omega), wv_n (by omega), wv_n (by omega), wv_n (by omega), wv_n (by omega)]
    exact ho j hj (by omega)
end Mwr
section MSetup
variable {σ μ τ : Mem} {ν : Nat → Int} {f : Int → Int} {L : Nat} {s : Sta}
set_option maxRecDepth 8000 in
set_option maxHeartbeats 4000000 in
theorem m_named2 {x : Int} (hx : rng x) (h8 : 0 ≤ ν 8 ∧ ν 8 ≤ 12) {Q : Option Value → Mem → Prop} {X : String → Mem → Prop} (K : ∀ v, v = fnd (fun m => ν (18 + 6 * m + 0) = x) (ν 8).toNat → -1 ≤ v ∧ v < 12 → Q (some (.int (iI v))) (md σ ν μ)) : mt 289 1 0 0 mX11_named [.ref 276, .int (iI x)] Q X (md σ ν μ) := by
  show go 289 1 0 0 mX11_named Q X 0 [.ref 276, .int (iI x), .null] [] _
  have loop : ∀ (n k : Nat), (k : Int) + n = ν 8 → (∀ i, i < k → ¬ ν (18 + 6 * i + 0) = x) → go 289 1 0 0 mX11_named Q X 2 [.ref 276, .int (iI x), .int (iI (k : Nat))] [] (md σ ν μ) := by
    intro n
    induction n using Nat.strongRecOn with
    | _ n ih =>
      intro k hk hno
      have ih' := ih (n - 1)
      refine go_iload_n (y := mX11_named) (pc := 2) dX11_named_2 rfl rfl ?_
      refine go_aload_n (y := mX11_named) (pc := 3) dX11_named_3 rfl rfl ?_
      refine go_mref (y := mX11_named) (pc := 4) dX11_named_4 fl_X11_7 rfl rfl (by decide) ?_
      refine go_bipush (y := mX11_named) (pc := 7) dX11_named_7 (by decide) ?_
      refine go_nial (y := mX11_named) (pc := 9) (k := 8) dX11_named_9 (by decide) rfl (by omega) (fun r9 => ?_)
      refine go_icmp_ge (y := mX11_named) (pc := 10) (tgt := 31) dX11_named_10 (by decide) (by omega) (by omega) (fun h10 => ?_) (fun h10 => ?_)
      · skip
        refine go_iconst (y := mX11_named) (pc := 31) dX11_named_31 ?_
        refine go_ireturn (y := mX11_named) (pc := 32) dX11_named_32 rfl ?_
        exact K (-1) (fnd_0 (fun i hi => hno i (by omega))).symm (by decide)
      · skip
        refine go_aload_n (y := mX11_named) (pc := 13) dX11_named_13 rfl rfl ?_
        refine go_iload_n (y := mX11_named) (pc := 14) dX11_named_14 rfl rfl ?_
        refine go_iconst (y := mX11_named) (pc := 15) dX11_named_15 ?_
        refine go_callV2 (y := mX11_named) (pc := 16) (y' := mX11_of) (kc2 := 0) (ks2 := 0) dX11_named_16 ml_X11_100 ok_X11_of (show shp 276 = _ from rfl) ⟨_, _, rfl⟩ (by decide) ⟨rfl, rfl⟩ (by decide) (Nat.le_of_ble_eq_true rfl) rfl (m_of (m := k) (w := 0) (by omega) (by decide) (fun v16 e16 r16 => ?_))
        refine go_top (b := ν (18 + 6 * k + 0)) (e16) (fun t16 => ?_)
        refine go_iload_n (y := mX11_named) (pc := 19) dX11_named_19 rfl rfl ?_
        refine go_icmp_ne (y := mX11_named) (pc := 20) (tgt := 25) dX11_named_20 (by decide) (by omega) (by omega) (fun h20 => ?_) (fun h20 => ?_)
        · skip
          refine go_iinc (y := mX11_named) (pc := 25) dX11_named_25 rfl (by decide) ?_
          refine go_goto (y := mX11_named) (pc := 28) (tgt := 2) dX11_named_28 (by decide) ?_
          refine ih' (by omega) (k + 1) (by omega) (fun i hi => ?_)
          by_cases g : i = k
          · rw [g]; exact h20
          · exact hno i (by omega)
        · skip
          refine go_iload_n (y := mX11_named) (pc := 23) dX11_named_23 rfl rfl ?_
          refine go_ireturn (y := mX11_named) (pc := 24) dX11_named_24 rfl ?_
          exact K k (fnd_1 (by omega) h20 hno).symm (by omega)
  refine go_iconst (y := mX11_named) (pc := 0) dX11_named_0 ?_
  refine go_istore_n (y := mX11_named) (pc := 1) dX11_named_1 rfl (by decide) ?_
  exact loop (ν 8).toNat 0 (by omega) (fun i hi => absurd hi (by omega))
set_option maxRecDepth 8000 in
set_option maxHeartbeats 4000000 in
theorem m_readsMember (hr : rom f L s σ) (h8 : 0 ≤ ν 8 ∧ ν 8 ≤ 12) (hrl : s.2.1 = 0 → rls τ ν ∧ wfD τ) {Q : Option Value → Mem → Prop} {X : String → Mem → Prop} (K : ∀ σ' ν', rom f L (mst f L (s, τ)).1 σ' → smo σ' σ → (0 ≤ ν' 8 ∧ ν' 8 ≤ 12) → ((mst f L (s, τ)).1.2.1 = 0 → rls (mst f L (s, τ)).2 ν' ∧ wfD (mst f L (s, τ)).2 ∧ (mst f L (s, τ)).2 15 7 = τ 15 7 + 1) → Q none (md σ' ν' μ)) : mt 289 5 0 0 mX11_readsMember [.ref 276] Q X (md σ ν μ) := by
  show go 289 5 0 0 mX11_readsMember Q X 0 [.ref 276, .null, .null, .null, .null, .null] [] _
  have f0 := hr.1.2.2.2
  have sL := hr.2.2.2.2.2.2.2
  have K' : ∀ σ' ν', rom f L (mq6 f L s τ) σ' → smo σ' σ → (0 ≤ ν' 8 ∧ ν' 8 ≤ 12) → ((mq6 f L s τ).2.1 = 0 → rls (if (mq6 f L s τ).2.1 = 0 then mwr f L s τ else τ) ν' ∧ wfD (if (mq6 f L s τ).2.1 = 0 then mwr f L s τ else τ) ∧ (if (mq6 f L s τ).2.1 = 0 then mwr f L s τ else τ) 15 7 = τ 15 7 + 1) → Q none (md σ' ν' μ) := K
  have q1L : (mq1 f L s τ).1 ≤ L := gm_1 (by rw [mus_1]; exact sL) f0
  have J66 : ∀ (nm c : Int) (σ1 : Mem), (c = 0 ∨ c = 1) → nm = nmp f L (mq1 f L s τ) → rom f L (nms f L (mq1 f L s τ)) σ1 → smo σ1 σ → c = bI ((nms f L (mq1 f L s τ)).2.1 ≠ 0 ∨ fnd (fun m => ν (18 + 6 * m + 0) = nm) (ν 8).toNat = -1) → go 289 5 0 0 mX11_readsMember Q X 66 [.ref 276, .int (iI nm), .null, .null, .null, .null] [.int (iI c), .ref 276] (md σ1 ν μ) := by
    intro nm c σ1 cb hnm h1 hw hc
    have nb := nmp_b (f := f) (L := L) (s := mq1 f L s τ)
    have em : mus (nms f L (mq1 f L s τ)) ((nms f L (mq1 f L s τ)).2.1 ≠ 0 ∨ fnd (fun m => ν (18 + 6 * m + 0) = nm) (ν 8).toNat = -1) 3 = mus (nms f L (mq1 f L s τ)) (fnd (fun m => τ 16 m = mqn f L s τ) (τ 15 7).toNat = -1) 3 := by
      refine mus_oo (fun g => ?_)
      have g1 := (nms_0 g).1
      have gs := (mus_0 (show (1 : Int) ≠ 0 by decide) (gm_0 (show (4 : Int) ≠ 0 by decide) g1).1).1
      obtain ⟨⟨⟨a0, a1, a2, a3, a4, a5, a6, a8, a16⟩, hm, ho⟩, ⟨n0, n12⟩, hh, hd⟩ := hrl gs
      have e9 : fnd (fun m => ν (18 + 6 * m + 0) = nm) (ν 8).toNat = fnd (fun m => τ 16 m = mqn f L s τ) (τ 15 7).toNat := by
        rw [a8, hnm, nmp_nbt g]
        rw [← fnd_n27 (g := fun m => τ 16 m) (x := mqn f L s τ) (fun k hk => (hd k (by omega)).1) isn_nbt]
        refine fnd_cong (fun k hk => ?_)
        rw [(hm k (by omega)).1]
        exact Iff.rfl
      rw [e9]
      exact ⟨fun w => w.resolve_left (fun w9 => w9 g), Or.inr⟩
    refine go_iconst (y := mX11_readsMember) (pc := 66) dX11_readsMember_66 ?_
    refine go_callV2 (y := mX11_readsMember) (pc := 67) (y' := mX11_must) (kc2 := 0) (ks2 := 0) dX11_readsMember_67 ml_X11_205 ok_X11_must (show shp 276 = _ from rfl) ⟨_, _, rfl⟩ (by decide) ⟨rfl, rfl⟩ (by decide) (Nat.le_of_ble_eq_true rfl) rfl (m_must hc (by decide) h1 (fun σ67 v67 e67 w67 b67 c67 => ?_))
    rw [em] at e67
    refine go_pop (y := mX11_readsMember) (pc := 70) dX11_readsMember_70 rfl ?_
    refine go_aload_n (y := mX11_readsMember) (pc := 71) dX11_readsMember_71 rfl rfl ?_
    refine go_callV0 (y := mX11_readsMember) (pc := 72) (y' := mX11_goesOn) (kc2 := 0) (ks2 := 0) dX11_readsMember_72 ml_X11_208 ok_X11_goesOn (show shp 276 = _ from rfl) ⟨_, _, rfl⟩ (by decide) trivial (by decide) (Nat.le_of_ble_eq_true rfl) rfl (m_goesOn e67 (fun σ72 e72 w72 => ?_))
    have e72 : rom f L (mq2 f L s τ) σ72 := e72
    refine go_aload_n (y := mX11_readsMember) (pc := 75) dX11_readsMember_75 rfl rfl ?_
    refine go_iconst (y := mX11_readsMember) (pc := 76) dX11_readsMember_76 ?_
    refine go_bipush (y := mX11_readsMember) (pc := 77) dX11_readsMember_77 (by decide) ?_
    refine go_callV2 (y := mX11_readsMember) (pc := 79) (y' := mX11_number) (kc2 := 0) (ks2 := 0) dX11_readsMember_79 ml_X11_222 ok_X11_number (show shp 276 = _ from rfl) ⟨_, _, rfl⟩ (by decide) ⟨rfl, rfl⟩ (by decide) (Nat.le_of_ble_eq_true rfl) rfl (m_number (by omega) (by omega) e72 (fun σ79 v79 e79 w79 x79 => ?_))
    have e79 : rom f L (mq3 f L s τ) σ79 := e79
    refine go_istore_n (y := mX11_readsMember) (pc := 82) dX11_readsMember_82 rfl (by decide) ?_
    refine go_aload_n (y := mX11_readsMember) (pc := 83) dX11_readsMember_83 rfl rfl ?_
    refine go_iconst (y := mX11_readsMember) (pc := 84) dX11_readsMember_84 ?_
    refine go_bipush (y := mX11_readsMember) (pc := 85) dX11_readsMember_85 (by decide) ?_
    refine go_callV2 (y := mX11_readsMember) (pc := 87) (y' := mX11_number) (kc2 := 0) (ks2 := 0) dX11_readsMember_87 ml_X11_222 ok_X11_number (show shp 276 = _ from rfl) ⟨_, _, rfl⟩ (by decide) ⟨rfl, rfl⟩ (by decide) (Nat.le_of_ble_eq_true rfl) rfl (m_number (by omega) (by omega) e79 (fun σ87 v87 e87 w87 x87 => ?_))
    have e87 : rom f L (mq4 f L s τ) σ87 := e87
    refine go_istore_n (y := mX11_readsMember) (pc := 90) dX11_readsMember_90 rfl (by decide) ?_
    refine go_aload_n (y := mX11_readsMember) (pc := 91) dX11_readsMember_91 rfl rfl ?_
    refine go_iconst (y := mX11_readsMember) (pc := 92) dX11_readsMember_92 ?_
    refine go_bipush (y := mX11_readsMember) (pc := 93) dX11_readsMember_93 (by decide) ?_
    refine go_callV2 (y := mX11_readsMember) (pc := 95) (y' := mX11_number) (kc2 := 0) (ks2 := 0) dX11_readsMember_95 ml_X11_222 ok_X11_number (show shp 276 = _ from rfl) ⟨_, _, rfl⟩ (by decide) ⟨rfl, rfl⟩ (by decide) (Nat.le_of_ble_eq_true rfl) rfl (m_number (by omega) (by omega) e87 (fun σ95 v95 e95 w95 x95 => ?_))
    have e95 : rom f L (mq5 f L s τ) σ95 := e95
    refine go_istore (y := mX11_readsMember) (pc := 98) dX11_readsMember_98 (by decide) ?_
    refine go_aload_n (y := mX11_readsMember) (pc := 100) dX11_readsMember_100 rfl rfl ?_
    refine go_bipush (y := mX11_readsMember) (pc := 101) dX11_readsMember_101 (by decide) ?_
    refine go_callV1 (y := mX11_readsMember) (pc := 103) (y' := mX11_takesSign) (kc2 := 0) (ks2 := 0) dX11_readsMember_103 ml_X11_225 ok_X11_takesSign (show shp 276 = _ from rfl) ⟨_, _, rfl⟩ (by decide) rfl (by decide) (Nat.le_of_ble_eq_true rfl) rfl (m_takesSign (by omega) e95 (fun σ103 e103 w103 => ?_))
    have e103 : rom f L (mq6 f L s τ) σ103 := e103
    refine go_aload_n (y := mX11_readsMember) (pc := 106) dX11_readsMember_106 rfl rfl ?_
    refine go_mget (y := mX11_readsMember) (pc := 107) dX11_readsMember_107 fl_X11_189 rfl rfl (by decide) (fun r107 => ?_)
    refine go_top (b := (mq6 f L s τ).2.1) (e103.2.2.2.2.1) (fun t107 => ?_)
    refine go_if_eq (y := mX11_readsMember) (pc := 110) (tgt := 114) dX11_readsMember_110 (by decide) (by omega) (fun g110 => ?_) (fun g110 => ?_)
    · skip
      have g := g110
      have hq := mq_0 g
      obtain ⟨g5, g4, g3, g2, g1, gs, gn⟩ := hq
      have b5 := (num3_0 g5).2.2
      have b4 := (num3_0 g4).2.2
      have b3 := (num3_0 g3).2.2
      have v3 := x79 g3
      have v4 := x87 g4
      have v5 := x95 g5
      have hR := hrl gs
      obtain ⟨hR1, hR2⟩ := hR
      have a8 : ν 8 = τ 15 7 := hR1.1.2.2.2.2.2.2.2.1
      have a16 : 0 ≤ ν 16 ∧ ν 16 ≤ 12 * 99 := by
        rw [hR1.1.2.2.2.2.2.2.2.2]
        have hb := smf_bd (f := fun m => τ 19 m) (b := 99) (n := (τ 15 7).toNat) (fun k hk => (hR2.2.2 k (by omega)).2.2.2.2.2.2)
        omega
      rw [if_pos g] at K'
      have en : (((ν 8).toNat : Nat) : Int) = τ 15 7 := by omega
      have nq : nm = n27 (mqn f L s τ) := by
        rw [hnm]
        exact nmp_nbt (gm_0 (show (3 : Int) ≠ 0 by decide) g2).1
      have hRl := rls_mst (f := f) (L := L) (s := s) (by omega) hR1 en nq v3 v4 v5
      refine go_aload_n (y := mX11_readsMember) (pc := 114) dX11_readsMember_114 rfl rfl ?_
      refine go_mref (y := mX11_readsMember) (pc := 115) dX11_readsMember_115 fl_X11_7 rfl rfl (by decide) ?_
      refine go_bipush (y := mX11_readsMember) (pc := 118) dX11_readsMember_118 (by decide) ?_
      refine go_nial (y := mX11_readsMember) (pc := 120) (k := 8) dX11_readsMember_120 (by decide) rfl (by omega) (fun r120 => ?_)
      refine go_top (b := (((ν 8).toNat : Nat) : Int)) ((by omega)) (fun t120 => ?_)
      refine go_istore (y := mX11_readsMember) (pc := 121) dX11_readsMember_121 (by decide) ?_
      refine go_aload_n (y := mX11_readsMember) (pc := 123) dX11_readsMember_123 rfl rfl ?_
      refine go_iload (y := mX11_readsMember) (pc := 124) dX11_readsMember_124 rfl ?_
      refine go_iconst (y := mX11_readsMember) (pc := 126) dX11_readsMember_126 ?_
      refine go_iload_n (y := mX11_readsMember) (pc := 127) dX11_readsMember_127 rfl rfl ?_
      refine go_callV3 (y := mX11_readsMember) (pc := 128) (y' := mX11_puts) (kc2 := 0) (ks2 := 0) dX11_readsMember_128 ml_X11_138 ok_X11_puts (show shp 276 = _ from rfl) ⟨_, _, rfl⟩ (by decide) ⟨rfl, rfl, rfl⟩ (by decide) (Nat.le_of_ble_eq_true rfl) rfl (m_puts (m := ((ν 8).toNat)) (w := 0) (by omega) (by decide) (by omega) ?_)
      refine go_aload_n (y := mX11_readsMember) (pc := 131) dX11_readsMember_131 rfl rfl ?_
      refine go_iload (y := mX11_readsMember) (pc := 132) dX11_readsMember_132 rfl ?_
      refine go_iconst (y := mX11_readsMember) (pc := 134) dX11_readsMember_134 ?_
      refine go_iload_n (y := mX11_readsMember) (pc := 135) dX11_readsMember_135 rfl rfl ?_
      refine go_callV3 (y := mX11_readsMember) (pc := 136) (y' := mX11_puts) (kc2 := 0) (ks2 := 0) dX11_readsMember_136 ml_X11_138 ok_X11_puts (show shp 276 = _ from rfl) ⟨_, _, rfl⟩ (by decide) ⟨rfl, rfl, rfl⟩ (by decide) (Nat.le_of_ble_eq_true rfl) rfl (m_puts (m := ((ν 8).toNat)) (w := 1) (by omega) (by decide) (by omega) ?_)
      refine go_aload_n (y := mX11_readsMember) (pc := 139) dX11_readsMember_139 rfl rfl ?_
      refine go_iload (y := mX11_readsMember) (pc := 140) dX11_readsMember_140 rfl ?_
      refine go_iconst (y := mX11_readsMember) (pc := 142) dX11_readsMember_142 ?_
      refine go_iload_n (y := mX11_readsMember) (pc := 143) dX11_readsMember_143 rfl rfl ?_
      refine go_callV3 (y := mX11_readsMember) (pc := 144) (y' := mX11_puts) (kc2 := 0) (ks2 := 0) dX11_readsMember_144 ml_X11_138 ok_X11_puts (show shp 276 = _ from rfl) ⟨_, _, rfl⟩ (by decide) ⟨rfl, rfl, rfl⟩ (by decide) (Nat.le_of_ble_eq_true rfl) rfl (m_puts (m := ((ν 8).toNat)) (w := 2) (by omega) (by decide) (by omega) ?_)
      refine go_aload_n (y := mX11_readsMember) (pc := 147) dX11_readsMember_147 rfl rfl ?_
      refine go_iload (y := mX11_readsMember) (pc := 148) dX11_readsMember_148 rfl ?_
      refine go_iconst (y := mX11_readsMember) (pc := 150) dX11_readsMember_150 ?_
      refine go_iload (y := mX11_readsMember) (pc := 151) dX11_readsMember_151 rfl ?_
      refine go_callV3 (y := mX11_readsMember) (pc := 153) (y' := mX11_puts) (kc2 := 0) (ks2 := 0) dX11_readsMember_153 ml_X11_138 ok_X11_puts (show shp 276 = _ from rfl) ⟨_, _, rfl⟩ (by decide) ⟨rfl, rfl, rfl⟩ (by decide) (Nat.le_of_ble_eq_true rfl) rfl (m_puts (m := ((ν 8).toNat)) (w := 3) (by omega) (by decide) (by omega) ?_)
      refine go_aload_n (y := mX11_readsMember) (pc := 156) dX11_readsMember_156 rfl rfl ?_
      refine go_iload (y := mX11_readsMember) (pc := 157) dX11_readsMember_157 rfl ?_
      refine go_iconst (y := mX11_readsMember) (pc := 159) dX11_readsMember_159 ?_
      refine go_iconst (y := mX11_readsMember) (pc := 160) dX11_readsMember_160 ?_
      refine go_callV3 (y := mX11_readsMember) (pc := 161) (y' := mX11_puts) (kc2 := 0) (ks2 := 0) dX11_readsMember_161 ml_X11_138 ok_X11_puts (show shp 276 = _ from rfl) ⟨_, _, rfl⟩ (by decide) ⟨rfl, rfl, rfl⟩ (by decide) (Nat.le_of_ble_eq_true rfl) rfl (m_puts (m := ((ν 8).toNat)) (w := 4) (by omega) (by decide) (by omega) ?_)
      refine go_aload_n (y := mX11_readsMember) (pc := 164) dX11_readsMember_164 rfl rfl ?_
      refine go_mref (y := mX11_readsMember) (pc := 165) dX11_readsMember_165 fl_X11_7 rfl rfl (by decide) ?_
      refine go_bipush (y := mX11_readsMember) (pc := 168) dX11_readsMember_168 (by decide) ?_
      refine go_dup2 (y := mX11_readsMember) (pc := 170) dX11_readsMember_170 rfl rfl ?_
      refine go_nial (y := mX11_readsMember) (pc := 171) (k := 16) dX11_readsMember_171 (by decide) rfl (by omega) (fun r171 => ?_)
      refine go_top (b := ν 16) ((by rw [wv_n (by omega), wv_n (by omega), wv_n (by omega), wv_n (by omega), wv_n (by omega)])) (fun t171 => ?_)
      refine go_iload (y := mX11_readsMember) (pc := 172) dX11_readsMember_172 rfl ?_
      refine go_iadd (y := mX11_readsMember) (pc := 174) dX11_readsMember_174 ?_
      refine go_nias (y := mX11_readsMember) (pc := 175) (k := 16) dX11_readsMember_175 (by decide) rfl (by omega) (by omega) ?_
      refine go_aload_n (y := mX11_readsMember) (pc := 176) dX11_readsMember_176 rfl rfl ?_
      refine go_mref (y := mX11_readsMember) (pc := 177) dX11_readsMember_177 fl_X11_7 rfl rfl (by decide) ?_
      refine go_bipush (y := mX11_readsMember) (pc := 180) dX11_readsMember_180 (by decide) ?_
      refine go_dup2 (y := mX11_readsMember) (pc := 182) dX11_readsMember_182 rfl rfl ?_
      refine go_nial (y := mX11_readsMember) (pc := 183) (k := 8) dX11_readsMember_183 (by decide) rfl (by omega) (fun r183 => ?_)
      refine go_top (b := ν 8) ((by rw [wv_n (by omega), wv_n (by omega), wv_n (by omega), wv_n (by omega), wv_n (by omega), wv_n (by omega)])) (fun t183 => ?_)
      refine go_iconst (y := mX11_readsMember) (pc := 184) dX11_readsMember_184 ?_
      refine go_iadd (y := mX11_readsMember) (pc := 185) dX11_readsMember_185 ?_
      refine go_nias (y := mX11_readsMember) (pc := 186) (k := 8) dX11_readsMember_186 (by decide) rfl (by omega) (by omega) ?_
      refine go_return (y := mX11_readsMember) (pc := 187) dX11_readsMember_187 rfl ?_
      exact K' _ _ e103 (smo_t w103 (smo_t w95 (smo_t w87 (smo_t w79 (smo_t w72 (smo_t w67 hw)))))) (by rw [wv_s]; omega) (fun _ => ⟨hRl, wfD_mst q1L f0 hR2 g, mwr_7⟩)
    · skip
      refine go_return (y := mX11_readsMember) (pc := 113) dX11_readsMember_113 rfl ?_
      exact K' _ ν e103 (smo_t w103 (smo_t w95 (smo_t w87 (smo_t w79 (smo_t w72 (smo_t w67 hw)))))) h8 (fun g9 => absurd g9 g110)
  have J30 : ∀ (c : Int) (σ1 : Mem), (c = 0 ∨ c = 1) → rom f L (mus s (atw f L s.1 "member") 1) σ1 → smo σ1 σ → c = bI (ν 8 < 12) → go 289 5 0 0 mX11_readsMember Q X 30 [.ref 276, .null, .null, .null, .null, .null] [.int (iI c), .ref 276] (md σ1 ν μ) := by
    intro c σ1 cb h1 hw hc
    have em : mus (mus s (atw f L s.1 "member") 1) (ν 8 < 12) 4 = mus (mus s (atw f L s.1 "member") 1) (τ 15 7 < 12) 4 := by
      refine mus_oo (fun g => ?_)
      have gs := (mus_0 (show (1 : Int) ≠ 0 by decide) g).1
      rw [(hrl gs).1.1.2.2.2.2.2.2.2.1]
    refine go_iconst (y := mX11_readsMember) (pc := 30) dX11_readsMember_30 ?_
    refine go_callV2 (y := mX11_readsMember) (pc := 31) (y' := mX11_must) (kc2 := 0) (ks2 := 0) dX11_readsMember_31 ml_X11_205 ok_X11_must (show shp 276 = _ from rfl) ⟨_, _, rfl⟩ (by decide) ⟨rfl, rfl⟩ (by decide) (Nat.le_of_ble_eq_true rfl) rfl (m_must hc (by decide) h1 (fun σ31 v31 e31 w31 b31 c31 => ?_))
    rw [em] at e31
    refine go_pop (y := mX11_readsMember) (pc := 34) dX11_readsMember_34 rfl ?_
    refine go_aload_n (y := mX11_readsMember) (pc := 35) dX11_readsMember_35 rfl rfl ?_
    refine go_callV0 (y := mX11_readsMember) (pc := 36) (y' := mX11_goesOn) (kc2 := 0) (ks2 := 0) dX11_readsMember_36 ml_X11_208 ok_X11_goesOn (show shp 276 = _ from rfl) ⟨_, _, rfl⟩ (by decide) trivial (by decide) (Nat.le_of_ble_eq_true rfl) rfl (m_goesOn e31 (fun σ36 e36 w36 => ?_))
    have e36 : rom f L (mq1 f L s τ) σ36 := e36
    refine go_aload_n (y := mX11_readsMember) (pc := 39) dX11_readsMember_39 rfl rfl ?_
    refine go_callV0 (y := mX11_readsMember) (pc := 40) (y' := mX11_looksAtName) (kc2 := 0) (ks2 := 0) dX11_readsMember_40 ml_X11_214 ok_X11_looksAtName (show shp 276 = _ from rfl) ⟨_, _, rfl⟩ (by decide) trivial (by decide) (Nat.le_of_ble_eq_true rfl) rfl (m_looksAtName e36 (fun σ40 v40 e40 w40 x40 => ?_))
    refine go_istore_n (y := mX11_readsMember) (pc := 43) dX11_readsMember_43 rfl (by decide) ?_
    refine go_aload_n (y := mX11_readsMember) (pc := 44) dX11_readsMember_44 rfl rfl ?_
    refine go_aload_n (y := mX11_readsMember) (pc := 45) dX11_readsMember_45 rfl rfl ?_
    refine go_mget (y := mX11_readsMember) (pc := 46) dX11_readsMember_46 fl_X11_189 rfl rfl (by decide) (fun r46 => ?_)
    refine go_top (b := (nms f L (mq1 f L s τ)).2.1) (e40.2.2.2.2.1) (fun t46 => ?_)
    refine go_if_ne (y := mX11_readsMember) (pc := 49) (tgt := 61) dX11_readsMember_49 (by decide) (by omega) (fun g49 => ?_) (fun g49 => ?_)
    · skip
      refine go_iconst (y := mX11_readsMember) (pc := 61) dX11_readsMember_61 ?_
      refine go_goto (y := mX11_readsMember) (pc := 62) (tgt := 66) dX11_readsMember_62 (by decide) ?_
      exact J66 v40 1 σ40 (by omega) x40 e40 (smo_t w40 (smo_t w36 (smo_t w31 hw))) (bI_t (Or.inl g49)).symm
    · skip
      refine go_aload_n (y := mX11_readsMember) (pc := 52) dX11_readsMember_52 rfl rfl ?_
      refine go_iload_n (y := mX11_readsMember) (pc := 53) dX11_readsMember_53 rfl rfl ?_
      refine go_callV1 (y := mX11_readsMember) (pc := 54) (y' := mX11_named) (kc2 := 0) (ks2 := 0) dX11_readsMember_54 ml_X11_217 ok_X11_named (show shp 276 = _ from rfl) ⟨_, _, rfl⟩ (by decide) rfl (by decide) (Nat.le_of_ble_eq_true rfl) rfl (m_named2 (x := v40) (by have := nmp_b (f := f) (L := L) (s := mq1 f L s τ); omega) h8 (fun v54 e54 b54 => ?_))
      refine go_iconst (y := mX11_readsMember) (pc := 57) dX11_readsMember_57 ?_
      refine go_icmp_ne (y := mX11_readsMember) (pc := 58) (tgt := 65) dX11_readsMember_58 (by decide) (by omega) (by omega) (fun h58 => ?_) (fun h58 => ?_)
      · skip
        refine go_iconst (y := mX11_readsMember) (pc := 65) dX11_readsMember_65 ?_
        exact J66 v40 0 σ40 (by omega) x40 e40 (smo_t w40 (smo_t w36 (smo_t w31 hw))) (bI_f (fun w => w.elim (fun w9 => w9 g49) (fun w9 => h58 (e54.trans w9)))).symm
      · skip
        refine go_iconst (y := mX11_readsMember) (pc := 61) dX11_readsMember_61 ?_
        refine go_goto (y := mX11_readsMember) (pc := 62) (tgt := 66) dX11_readsMember_62 (by decide) ?_
        exact J66 v40 1 σ40 (by omega) x40 e40 (smo_t w40 (smo_t w36 (smo_t w31 hw))) (bI_t (Or.inr (e54.symm.trans h58))).symm
  refine go_aload_n (y := mX11_readsMember) (pc := 0) dX11_readsMember_0 rfl rfl ?_
  refine go_aload_n (y := mX11_readsMember) (pc := 1) dX11_readsMember_1 rfl rfl ?_
  refine go_ldc (y := mX11_readsMember) (pc := 2) (i := 33) dX11_readsMember_2 rfl ?_
  refine go_callV1 (y := mX11_readsMember) (pc := 4) (y' := mX11_isWord) (kc2 := 0) (ks2 := 0) dX11_readsMember_4 ml_X11_198 ok_X11_isWord (show shp 276 = _ from rfl) ⟨_, _, rfl⟩ (by decide) rfl (by decide) (Nat.le_of_ble_eq_true rfl) rfl (m_isWord (k := 33) rfl hr (fun v4 e4 b4 => ?_))
  refine go_iconst (y := mX11_readsMember) (pc := 7) dX11_readsMember_7 ?_
  refine go_callV2 (y := mX11_readsMember) (pc := 8) (y' := mX11_must) (kc2 := 0) (ks2 := 0) dX11_readsMember_8 ml_X11_205 ok_X11_must (show shp 276 = _ from rfl) ⟨_, _, rfl⟩ (by decide) ⟨rfl, rfl⟩ (by decide) (Nat.le_of_ble_eq_true rfl) rfl (m_must e4 (by decide) hr (fun σ8 v8 e8 w8 b8 c8 => ?_))
  rw [mus_a] at e8
  refine go_pop (y := mX11_readsMember) (pc := 11) dX11_readsMember_11 rfl ?_
  refine go_aload_n (y := mX11_readsMember) (pc := 12) dX11_readsMember_12 rfl rfl ?_
  refine go_aload_n (y := mX11_readsMember) (pc := 13) dX11_readsMember_13 rfl rfl ?_
  refine go_mref (y := mX11_readsMember) (pc := 14) dX11_readsMember_14 fl_X11_7 rfl rfl (by decide) ?_
  refine go_bipush (y := mX11_readsMember) (pc := 17) dX11_readsMember_17 (by decide) ?_
  refine go_nial (y := mX11_readsMember) (pc := 19) (k := 8) dX11_readsMember_19 (by decide) rfl (by omega) (fun r19 => ?_)
  refine go_top (b := ν 8) (rfl) (fun t19 => ?_)
  refine go_bipush (y := mX11_readsMember) (pc := 20) dX11_readsMember_20 (by decide) ?_
  refine go_icmp_ge (y := mX11_readsMember) (pc := 22) (tgt := 29) dX11_readsMember_22 (by decide) (by omega) (by omega) (fun h22 => ?_) (fun h22 => ?_)
  · skip
    refine go_iconst (y := mX11_readsMember) (pc := 29) dX11_readsMember_29 ?_
    exact J30 0 σ8 (by omega) e8 w8 (bI_f (by omega)).symm
  · skip
    refine go_iconst (y := mX11_readsMember) (pc := 25) dX11_readsMember_25 ?_
    refine go_goto (y := mX11_readsMember) (pc := 26) (tgt := 30) dX11_readsMember_26 (by decide) ?_
    exact J30 1 σ8 (by omega) e8 w8 (bI_t (by omega)).symm
end MSetup
