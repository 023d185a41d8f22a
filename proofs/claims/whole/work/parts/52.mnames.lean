/-! THE MODEL: names taken -/
theorem p27_b {f : Int → Int} : ∀ (m p : Nat) (v w : Int), ltr f m p = true → 0 ≤ v → v < w → 0 ≤ p27 f m p v ∧ p27 f m p v < w * 27 ^ m
  | 0, p, v, w, _, h0, h1 => by rw [p27, Int.pow_zero, Int.mul_one]; exact ⟨h0, h1⟩
  | m + 1, p, v, w, hl, h0, h1 => by
    rw [ltr] at hl
    by_cases g : kd (f (p : Int)) = 1
    · rw [if_pos g] at hl
      have h := kd_1.mp g
      have h9 := p27_b m (p + 1) (27 * v + f (p : Int) - 96) (w * 27) hl (by omega) (by omega)
      rw [p27, Int.pow_succ, Int.mul_comm (27 ^ m) 27, ← Int.mul_assoc]
      exact h9
    · rw [if_neg g] at hl
      exact absurd hl (by decide)
theorem ltr_of {f : Int → Int} : ∀ (m p : Nat), (∀ i : Nat, p ≤ i → i < p + m → kd (f (i : Int)) = 1) → ltr f m p = true
  | 0, _, _ => rfl
  | m + 1, p, h => by
    rw [ltr, if_pos (h p (by omega) (by omega))]
    exact ltr_of m (p + 1) (fun i h1 h2 => h i (by omega) (by omega))
theorem ltr_tk {f : Int → Int} {L b : Nat} (hk : tkK f b = 1) : ltr f (tkE f L b - b) b = true := by
  have hE : tkE f L b = rnn f 1 (L - b) b := by unfold tkE; rw [if_neg (by omega), if_pos (by omega), hk]
  have hb := rnn_b (f := f) (k := 1) (L - b) b
  rw [hE]
  exact ltr_of _ _ (fun i h1 h2 => rnn_k (L - b) b i h1 (by omega))
/-- the name at the reader, or 0 behind an error -/
def nmp (f : Int → Int) (L : Nat) (s : Nat × Int × Int) : Int := if (nms f L s).2.1 = 0 then p27 f (tkE f L s.1 - s.1) s.1 0 else 0
theorem nms_1 {f : Int → Int} {L : Nat} {s : Nat × Int × Int} : (nms f L s).1 = s.1 := by
  unfold nms
  rw [mus_1, mus_1]
theorem nms_0 {f : Int → Int} {L : Nat} {s : Nat × Int × Int} (h : (nms f L s).2.1 = 0) : s.2.1 = 0 ∧ tkK f s.1 = 1 ∧ tkE f L s.1 - s.1 ≤ 6 := by
  unfold nms at h
  by_cases g : s.2.1 = 0
  · by_cases k : tkK f s.1 = 1
    · rw [mus_t k] at h
      by_cases r : ¬ 6 < tkE f L s.1 - s.1
      · exact ⟨g, k, by omega⟩
      · rw [mus_f g r] at h
        exact absurd h (show (2 : Int) ≠ 0 by decide)
    · rw [mus_f g k, mus_c (s := (s.1, 1, (s.1 : Int))) (show (1 : Int) ≠ 0 by decide)] at h
      exact absurd h (show (1 : Int) ≠ 0 by decide)
  · rw [mus_c g, mus_c g] at h
    exact absurd h g
theorem nmp_b {f : Int → Int} {L : Nat} {s : Nat × Int × Int} : 0 ≤ nmp f L s ∧ nmp f L s < 1073741824 := by
  unfold nmp
  by_cases h0 : (nms f L s).2.1 = 0
  · rw [if_pos h0]
    obtain ⟨-, k, h6⟩ := nms_0 h0
    have h := p27_b (tkE f L s.1 - s.1) s.1 0 1 (ltr_tk k) (by decide) (by decide)
    rw [Int.one_mul] at h
    obtain ⟨n, en⟩ : ∃ n, n = tkE f L s.1 - s.1 := ⟨_, rfl⟩
    rw [← en] at h h6 ⊢
    have e9 : n = 0 ∨ n = 1 ∨ n = 2 ∨ n = 3 ∨ n = 4 ∨ n = 5 ∨ n = 6 := by omega
    rcases e9 with e9 | e9 | e9 | e9 | e9 | e9 | e9 <;> rw [e9] at h ⊢ <;> omega
  · rw [if_neg h0]; decide
section MNames2
variable {σ μ : Mem} {ν : Nat → Int} {f : Int → Int} {L : Nat} {s : Nat × Int × Int}
set_option maxRecDepth 8000 in
set_option maxHeartbeats 4000000 in
theorem m_looksAtName (hr : rom f L s σ) {Q : Option Value → Mem → Prop} {X : String → Mem → Prop} (K : ∀ σ' v, rom f L (nms f L s) σ' → smo σ' σ → v = nmp f L s → Q (some (.int (iI v))) (md σ' ν μ)) : mt 289 3 0 0 mX11_looksAtName [.ref 276] Q X (md σ ν μ) := by
  show go 289 3 0 0 mX11_looksAtName Q X 0 [.ref 276] [] _
  have ht : tkT f s.1 = 1 ↔ tkK f s.1 = 1 := by
    unfold tkT
    by_cases g : tkK f s.1 = 3
    · rw [if_pos g]
      split <;> omega
    · rw [if_neg g]
  have tbt : 0 ≤ tkT f s.1 ∧ tkT f s.1 ≤ 4 := by
    have kb : 0 ≤ tkK f s.1 ∧ tkK f s.1 ≤ 4 := kd_b _
    unfold tkT
    (repeat' split) <;> omega
  have tb := tkE_b (b := s.1) hr.2.2.2.2.2.2.2 hr.1.2.2.2
  have hL7 := hr.1.2.1
  have J46 : ∀ σ1 : Mem, rom f L (nms f L s) σ1 → smo σ1 σ → go 289 3 0 0 mX11_looksAtName Q X 46 [.ref 276] [] (md σ1 ν μ) := by
    intro σ1 h1 h2
    have h1' := h1
    obtain ⟨g0, g1, g2, g3, g4, g5, g6, g7⟩ := h1
    rw [nms_1] at g1 g3
    refine go_aload_n (y := mX11_looksAtName) (pc := 46) dX11_looksAtName_46 rfl rfl ?_
    refine go_mget (y := mX11_looksAtName) (pc := 47) dX11_looksAtName_47 fl_X11_189 rfl rfl (by decide) (fun r47 => ?_)
    refine go_top (b := (nms f L s).2.1) (g4) (fun t47 => ?_)
    refine go_if_ne (y := mX11_looksAtName) (pc := 50) (tgt := 73) dX11_looksAtName_50 (by decide) (by omega) (fun h50 => ?_) (fun h50 => ?_)
    · skip
      refine go_iconst (y := mX11_looksAtName) (pc := 73) dX11_looksAtName_73 ?_
      refine go_ireturn (y := mX11_looksAtName) (pc := 74) dX11_looksAtName_74 rfl ?_
      exact K σ1 0 h1' h2 (by unfold nmp; rw [if_neg h50])
    · skip
      refine go_aload_n (y := mX11_looksAtName) (pc := 53) dX11_looksAtName_53 rfl rfl ?_
      refine go_aload_n (y := mX11_looksAtName) (pc := 54) dX11_looksAtName_54 rfl rfl ?_
      refine go_mget (y := mX11_looksAtName) (pc := 55) dX11_looksAtName_55 fl_X11_180 rfl rfl (by decide) (fun r55 => ?_)
      refine go_top (b := ((s.1 : Nat) : Int)) (g1) (fun t55 => ?_)
      refine go_aload_n (y := mX11_looksAtName) (pc := 58) dX11_looksAtName_58 rfl rfl ?_
      refine go_mget (y := mX11_looksAtName) (pc := 59) dX11_looksAtName_59 fl_X11_174 rfl rfl (by decide) (fun r59 => ?_)
      refine go_top (b := ((tkE f L s.1 : Nat) : Int)) (g3) (fun t59 => ?_)
      refine go_aload_n (y := mX11_looksAtName) (pc := 62) dX11_looksAtName_62 rfl rfl ?_
      refine go_mget (y := mX11_looksAtName) (pc := 63) dX11_looksAtName_63 fl_X11_180 rfl rfl (by decide) (fun r63 => ?_)
      refine go_top (b := ((s.1 : Nat) : Int)) (g1) (fun t63 => ?_)
      refine go_isub (y := mX11_looksAtName) (pc := 66) dX11_looksAtName_66 ?_
      refine go_top (b := ((tkE f L s.1 - s.1 : Nat) : Int)) ((by omega)) (fun t66 => ?_)
      refine go_callV2 (y := mX11_looksAtName) (pc := 67) (y' := mX11_packed) (kc2 := 0) (ks2 := 0) dX11_looksAtName_67 ml_X11_211 ok_X11_packed (show shp 276 = _ from rfl) ⟨_, _, rfl⟩ (by decide) ⟨rfl, rfl⟩ (by decide) (Nat.le_of_ble_eq_true rfl) rfl (m_packed (b := s.1) (m := (tkE f L s.1 - s.1)) g0 (by omega) ?_)
      refine go_goto (y := mX11_looksAtName) (pc := 70) (tgt := 74) dX11_looksAtName_70 (by decide) ?_
      refine go_ireturn (y := mX11_looksAtName) (pc := 74) dX11_looksAtName_74 rfl ?_
      exact K σ1 _ h1' h2 (by unfold nmp; rw [if_pos h50])
  have J14 : ∀ c : Int, c = bI (tkK f s.1 = 1) → (c = 0 ∨ c = 1) → go 289 3 0 0 mX11_looksAtName Q X 14 [.ref 276] [.int (iI c), .ref 276] (md σ ν μ) := by
    intro c hc cb
    refine go_iconst (y := mX11_looksAtName) (pc := 14) dX11_looksAtName_14 ?_
    refine go_callV2 (y := mX11_looksAtName) (pc := 15) (y' := mX11_must) (kc2 := 0) (ks2 := 0) dX11_looksAtName_15 ml_X11_205 ok_X11_must (show shp 276 = _ from rfl) ⟨_, _, rfl⟩ (by decide) ⟨rfl, rfl⟩ (by decide) (Nat.le_of_ble_eq_true rfl) rfl (m_must hc (by decide) hr (fun σ15 v15 e15 w15 x15 b15 => ?_))
    refine go_if_eq (y := mX11_looksAtName) (pc := 18) (tgt := 46) dX11_looksAtName_18 (by decide) (by omega) (fun h18 => ?_) (fun h18 => ?_)
    · skip
      have g := bI_0 x15 h18
      exact J46 σ15 (by unfold nms; rw [mus_c g]; exact e15) w15
    · skip
      have g := bI_1 x15 h18
      have gk : tkK f s.1 = 1 := by
        by_cases g1 : s.2.1 = 0
        · by_cases g2 : tkK f s.1 = 1
          · exact g2
          · rw [mus_f g1 g2] at g
            exact absurd g (show (1 : Int) ≠ 0 by decide)
        · rw [mus_c g1] at g
          exact absurd g g1
      have hs : mus s (tkK f s.1 = 1) 1 = s := mus_t gk
      rw [hs] at e15
      have J41 : ∀ c2 : Int, c2 = bI (¬ 6 < tkE f L s.1 - s.1) → (c2 = 0 ∨ c2 = 1) → go 289 3 0 0 mX11_looksAtName Q X 41 [.ref 276] [.int (iI c2), .ref 276] (md σ15 ν μ) := by
        intro c2 hc2 cb2
        refine go_iconst (y := mX11_looksAtName) (pc := 41) dX11_looksAtName_41 ?_
        refine go_callV2 (y := mX11_looksAtName) (pc := 42) (y' := mX11_must) (kc2 := 0) (ks2 := 0) dX11_looksAtName_42 ml_X11_205 ok_X11_must (show shp 276 = _ from rfl) ⟨_, _, rfl⟩ (by decide) ⟨rfl, rfl⟩ (by decide) (Nat.le_of_ble_eq_true rfl) rfl (m_must hc2 (by decide) e15 (fun σ42 v42 e42 w42 x42 b42 => ?_))
        refine go_pop (y := mX11_looksAtName) (pc := 45) dX11_looksAtName_45 rfl ?_
        exact J46 σ42 (by unfold nms; rw [hs]; exact e42) (smo_t w42 w15)
      refine go_aload_n (y := mX11_looksAtName) (pc := 21) dX11_looksAtName_21 rfl rfl ?_
      refine go_aload_n (y := mX11_looksAtName) (pc := 22) dX11_looksAtName_22 rfl rfl ?_
      refine go_mget (y := mX11_looksAtName) (pc := 23) dX11_looksAtName_23 fl_X11_174 rfl rfl (by decide) (fun r23 => ?_)
      refine go_top (b := ((tkE f L s.1 : Nat) : Int)) (e15.2.2.2.1) (fun t23 => ?_)
      refine go_aload_n (y := mX11_looksAtName) (pc := 26) dX11_looksAtName_26 rfl rfl ?_
      refine go_mget (y := mX11_looksAtName) (pc := 27) dX11_looksAtName_27 fl_X11_180 rfl rfl (by decide) (fun r27 => ?_)
      refine go_top (b := ((s.1 : Nat) : Int)) (e15.2.1) (fun t27 => ?_)
      refine go_isub (y := mX11_looksAtName) (pc := 30) dX11_looksAtName_30 ?_
      refine go_bipush (y := mX11_looksAtName) (pc := 31) dX11_looksAtName_31 (by decide) ?_
      refine go_icmp_gt (y := mX11_looksAtName) (pc := 33) (tgt := 40) dX11_looksAtName_33 (by decide) (by omega) (by omega) (fun h33 => ?_) (fun h33 => ?_)
      · skip
        refine go_iconst (y := mX11_looksAtName) (pc := 40) dX11_looksAtName_40 ?_
        exact J41 0 (bI_f (by omega)).symm (by omega)
      · skip
        refine go_iconst (y := mX11_looksAtName) (pc := 36) dX11_looksAtName_36 ?_
        refine go_goto (y := mX11_looksAtName) (pc := 37) (tgt := 41) dX11_looksAtName_37 (by decide) ?_
        exact J41 1 (bI_t (by omega)).symm (by omega)
  refine go_aload_n (y := mX11_looksAtName) (pc := 0) dX11_looksAtName_0 rfl rfl ?_
  refine go_aload_n (y := mX11_looksAtName) (pc := 1) dX11_looksAtName_1 rfl rfl ?_
  refine go_mget (y := mX11_looksAtName) (pc := 2) dX11_looksAtName_2 fl_X11_183 rfl rfl (by decide) (fun r2 => ?_)
  refine go_top (b := tkT f s.1) (hr.2.2.1) (fun t2 => ?_)
  refine go_iconst (y := mX11_looksAtName) (pc := 5) dX11_looksAtName_5 ?_
  refine go_icmp_ne (y := mX11_looksAtName) (pc := 6) (tgt := 13) dX11_looksAtName_6 (by decide) (by omega) (by omega) (fun h6 => ?_) (fun h6 => ?_)
  · skip
    refine go_iconst (y := mX11_looksAtName) (pc := 13) dX11_looksAtName_13 ?_
    exact J14 0 (bI_f (fun w => absurd (ht.mpr w) (by omega))).symm (by omega)
  · skip
    refine go_iconst (y := mX11_looksAtName) (pc := 9) dX11_looksAtName_9 ?_
    refine go_goto (y := mX11_looksAtName) (pc := 10) (tgt := 14) dX11_looksAtName_10 (by decide) ?_
    exact J14 1 (bI_t (ht.mp (by omega))).symm (by omega)
end MNames2
