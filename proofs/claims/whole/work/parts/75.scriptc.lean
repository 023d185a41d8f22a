/-! THE CLASS RUNS A SCRIPT -/
def sc0 (μ : Mem) : Mem := wr (wr (wr μ 4 5 0) 4 6 0) 4 7 0
theorem sc0_o {μ : Mem} {b j : Nat} (h : b ≠ 4) : sc0 μ b j = μ b j := by
  unfold sc0
  rw [wr_na h, wr_na h, wr_na h]
theorem sc0_pr {ρ : Nat → Int} {μ : Mem} : sc0 (pr ρ μ) = pr ρ (sc0 μ) := by
  funext b j
  by_cases g : b = 3
  · rw [sc0_o (by omega), g]
    rfl
  · rw [pr_o g]
    unfold sc0
    by_cases e : b = 4
    · rw [e]
      by_cases j7 : j = 7
      · rw [j7, wr_s, wr_s]
      rw [wr_ni j7, wr_ni j7]
      by_cases j6 : j = 6
      · rw [j6, wr_s, wr_s]
      rw [wr_ni j6, wr_ni j6]
      by_cases j5 : j = 5
      · rw [j5, wr_s, wr_s]
      rw [wr_ni j5, wr_ni j5, pr_o (by decide)]
    · rw [wr_na e, wr_na e, wr_na e, wr_na e, wr_na e, wr_na e, pr_o g]
/-- what is read of a script; the state behind its end -/
def rdB (f : Int → Int) (L : Nat) (M : Mem) : Sta × Mem := bk2 f L (st0 f L, sc0 M)
def rdE (f : Int → Int) (L : Nat) (M : Mem) : Sta := gon f L (mus (rdB f L M).1 (tkK f (rdB f L M).1.1 = 0) 1)
/-- behind a script that was read -/
def rsN (f : Int → Int) (L : Nat) (M μ' : Mem) : Prop := (∀ b j, b ≠ 1 → b ≠ 3 → (b < 4 ∨ 10 ≤ b) → μ' b j = M b j) ∧ μ' 1 1 = 0 ∧ μ' 3 4 = (rdE f L M).2.1 ∧ μ' 3 5 = (rdE f L M).2.2
def rnX (f : Int → Int) (L : Nat) (M : Mem) (n : Nat) : Rst := rnB (rdB f L M).2 (su M) n 0 ((rdB f L M).2 4 5).toNat (vw 20 M, 0, false)
theorem su_f {N M : Mem} (h : ∀ b j, 10 ≤ b → b < 15 → N b j = M b j) : su N = su M := by
  funext r j
  unfold su
  by_cases g : r < 5
  · rw [if_pos g, if_pos g, h (10 + r) j (by omega) (by omega)]
  · rw [if_neg g, if_neg g]
theorem hst_o {μ τ : Mem} {n b j : Nat} (h : b < 62) : hst μ n τ b j = μ b j := by
  unfold hst
  rw [wr_na (by omega), wr_na (by omega), put_o (by omega)]
section RunS
variable {f : Int → Int} {L : Nat} {M : Mem}
theorem okI_0 (ht : okT f L M) (hS : wfS (su M)) : okI f L (sc0 M) := by
  obtain ⟨n1, n12, -, -⟩ := wf_n hS
  have n1 : 1 ≤ M 10 7 := n1
  have n12 : M 10 7 ≤ 12 := n12
  refine ⟨?_, ?_, ?_⟩
  · unfold sc0
    (repeat' refine okT_wr ?_ (by decide) (by decide))
    exact ht
  · rw [sc0_o (by decide)]
    exact ⟨by omega, n12⟩
  · unfold sc0
    rw [wr_ni (by decide), wr_ni (by decide), wr_s]
    decide
set_option maxRecDepth 8000 in
set_option maxHeartbeats 4000000 in
theorem s_clear {μ : Mem} {Q : Option Value → Mem → Prop} {X : String → Mem → Prop} (K : Q none (sc0 μ)) : mt 276 0 0 0 mX6_clear [.ref 4] Q X μ := by
  show go 276 0 0 0 mX6_clear Q X 0 [.ref 4] [] _
  refine go_aload_n (y := mX6_clear) (pc := 0) dX6_clear_0 rfl rfl ?_
  refine go_iconst (y := mX6_clear) (pc := 1) dX6_clear_1 ?_
  refine go_putI (y := mX6_clear) (pc := 2) dX6_clear_2 fp_X6_27 rfl rfl (by decide) (by omega) ?_
  refine go_aload_n (y := mX6_clear) (pc := 5) dX6_clear_5 rfl rfl ?_
  refine go_iconst (y := mX6_clear) (pc := 6) dX6_clear_6 ?_
  refine go_putI (y := mX6_clear) (pc := 7) dX6_clear_7 fp_X6_31 rfl rfl (by decide) (by omega) ?_
  refine go_aload_n (y := mX6_clear) (pc := 10) dX6_clear_10 rfl rfl ?_
  refine go_iconst (y := mX6_clear) (pc := 11) dX6_clear_11 ?_
  refine go_putZ (y := mX6_clear) (pc := 12) dX6_clear_12 fp_X6_34 rfl rfl (by decide) (by omega) ?_
  refine go_return (y := mX6_clear) (pc := 15) dX6_clear_15 rfl ?_
  exact K
set_option maxRecDepth 8000 in
set_option maxHeartbeats 4000000 in
theorem g_runScript (ht : okT f L M) (hS : wfS (su M)) (hC : wfC (su M) (vw 20 M)) {h n : Nat} (hh : h < 8) (h1 : M 62 1 = h) (h2 : 0 ≤ M 62 2 ∧ M 62 2 ≤ 8) (hw : (rdE f L M).2.1 = 0 → wfb (rdB f L M).2 2 n 0 ((rdB f L M).2 4 5).toNat) {Q : Option Value → Mem → Prop} {X : String → Mem → Prop} (K : (rdE f L M).2.1 = 0 → ∀ μ' τ, rsN f L M μ' → eqC τ (vw 20 M) → Q (some (.int (iI (rnX f L M n).2.1))) (xs (rnX f L M n) (hst μ' h τ))) (K2 : (rdE f L M).2.1 ≠ 0 → ∀ μ', rsN f L M μ' → Q (some (.int (iI (-1)))) μ') : mt 276 15 0 0 mX10_runScript [.ref 0] Q X M := by
  show go 276 15 0 0 mX10_runScript Q X 0 [.ref 0] [] _
  obtain ⟨R, eR⟩ : ∃ R, R = rdB f L M := ⟨_, rfl⟩
  obtain ⟨E, eE⟩ : ∃ E, E = rdE f L M := ⟨_, rfl⟩
  have hI := okI_0 ht hS
  have htR : okT f L R.2 := by rw [eR]; exact (pv_2 _ hI).1
  have cb : 0 ≤ R.2 4 5 ∧ R.2 4 5 ≤ 30 := by rw [eR]; exact (pv_2 _ hI).2.2
  have eE2 : gon f L (mus R.1 (tkK f R.1.1 = 0) 1) = E := by rw [eE, eR]; rfl
  obtain ⟨F1, F2, F3, F4⟩ := fr_2 (f := f) (L := L) (st0 f L, sc0 M) hI
  have F3' : ∀ b j, (b < 4 ∨ 10 ≤ b) → R.2 b j = M b j := fun b j hb => by rw [eR]; exact (F3 b j hb).trans (sc0_o (by omega))
  have F46 : R.2 4 6 = 0 := by rw [eR]; exact F4 6 (by decide)
  have F47 : R.2 4 7 = 0 := by rw [eR]; exact F4 7 (by decide)
  have hN : ∀ ρ : Nat → Int, rok f L E ρ → rsN f L M (pr ρ (wr R.2 1 1 0)) := fun ρ hρ => by
    refine ⟨fun b j b1 b3 hb => ?_, ?_, ?_, ?_⟩
    · rw [pr_o b3, wr_na b1]
      exact F3' b j hb
    · rw [pr_o (by decide), wr_s]
    · rw [pr_r, ← eE]
      exact hρ.2.2.2.1
    · rw [pr_r, ← eE]
      exact hρ.2.2.2.2.1
  refine go_aload_n (y := mX10_runScript) (pc := 0) dX10_runScript_0 rfl rfl ?_
  refine go_getR (y := mX10_runScript) (pc := 1) dX10_runScript_1 fl_X10_21 rfl rfl (by decide) ?_
  refine go_mem (pr_v M).symm ?_
  refine go_callV0 (y := mX10_runScript) (pc := 4) (y' := mX9_start) (kc2 := 0) (ks2 := 0) dX10_runScript_4 ml_X10_111 ok_X9_start (show shp 3 = _ from rfl) ⟨_, _, rfl⟩ (by decide) trivial (by decide) (Nat.le_of_ble_eq_true rfl) rfl (f_start ht (fun ρ4 e4 => ?_))
  refine go_aload_n (y := mX10_runScript) (pc := 7) dX10_runScript_7 rfl rfl ?_
  refine go_getR (y := mX10_runScript) (pc := 8) dX10_runScript_8 fl_X10_28 rfl rfl (by decide) ?_
  refine go_callV0 (y := mX10_runScript) (pc := 11) (y' := mX6_clear) (kc2 := 0) (ks2 := 0) dX10_runScript_11 ml_X10_131 ok_X6_clear (show shp 4 = _ from rfl) ⟨_, _, rfl⟩ (by decide) trivial (by decide) (Nat.le_of_ble_eq_true rfl) rfl (s_clear ?_)
  refine go_mem sc0_pr ?_
  refine go_aload_n (y := mX10_runScript) (pc := 14) dX10_runScript_14 rfl rfl ?_
  refine go_getR (y := mX10_runScript) (pc := 15) dX10_runScript_15 fl_X10_28 rfl rfl (by decide) ?_
  refine go_aload_n (y := mX10_runScript) (pc := 18) dX10_runScript_18 rfl rfl ?_
  refine go_getR (y := mX10_runScript) (pc := 19) dX10_runScript_19 fl_X10_21 rfl rfl (by decide) ?_
  refine go_aload_n (y := mX10_runScript) (pc := 22) dX10_runScript_22 rfl rfl ?_
  refine go_getR (y := mX10_runScript) (pc := 23) dX10_runScript_23 fl_X10_35 rfl rfl (by decide) ?_
  refine go_iconst (y := mX10_runScript) (pc := 26) dX10_runScript_26 ?_
  refine go_callVN3 (y := mX10_runScript) (pc := 27) (y' := mX6_readBlock) (kc2 := 0) (ks2 := 0) dX10_runScript_27 ml_X10_132 ok_X6_readBlock (show shp 4 = _ from rfl) ⟨_, _, rfl⟩ (by decide) ⟨rfl, rfl, rfl⟩ (by decide) (Nat.le_of_ble_eq_true rfl) rfl (f_readBlock2 hI e4 (fun ρ27 e27 => ?_))
  rw [show bk2 f L ((tkB f L 0, 0, -1), sc0 M) = R from eR.symm] at e27 ⊢
  refine go_aload_n (y := mX10_runScript) (pc := 30) dX10_runScript_30 rfl rfl ?_
  refine go_getR (y := mX10_runScript) (pc := 31) dX10_runScript_31 fl_X10_21 rfl rfl (by decide) ?_
  refine go_callV0 (y := mX10_runScript) (pc := 34) (y' := mX9_takeEnd) (kc2 := 0) (ks2 := 0) dX10_runScript_34 ml_X10_136 ok_X9_takeEnd (show shp 3 = _ from rfl) ⟨_, _, rfl⟩ (by decide) trivial (by decide) (Nat.le_of_ble_eq_true rfl) rfl (f_takeEnd htR e27 (fun ρ34 e34 => ?_))
  rw [eE2] at e34
  refine go_aload_n (y := mX10_runScript) (pc := 37) dX10_runScript_37 rfl rfl ?_
  refine go_getR (y := mX10_runScript) (pc := 38) dX10_runScript_38 fl_X10_10 rfl rfl (by decide) ?_
  refine go_iconst (y := mX10_runScript) (pc := 41) dX10_runScript_41 ?_
  refine go_tput (y := mX10_runScript) (pc := 42) dX10_runScript_42 fp_X10_89 rfl rfl (by decide) (by decide) (by omega) ?_
  refine go_aload_n (y := mX10_runScript) (pc := 45) dX10_runScript_45 rfl rfl ?_
  refine go_getR (y := mX10_runScript) (pc := 46) dX10_runScript_46 fl_X10_21 rfl rfl (by decide) ?_
  refine go_callV0 (y := mX10_runScript) (pc := 49) (y' := mX9_isFine) (kc2 := 0) (ks2 := 0) dX10_runScript_49 ml_X10_118 ok_X9_isFine (show shp 3 = _ from rfl) ⟨_, _, rfl⟩ (by decide) trivial (by decide) (Nat.le_of_ble_eq_true rfl) rfl (u_isFine (c := E.2.1) e34.2.2.2.1 (fun v49 e49 b49 => ?_))
  refine go_if_ne (y := mX10_runScript) (pc := 52) (tgt := 57) dX10_runScript_52 (by decide) (by omega) (fun h52 => ?_) (fun h52 => ?_)
  · skip
    have g := bI_1 e49 h52
    have hN := hN ρ34 e34
    obtain ⟨N, eN⟩ : ∃ N, N = pr ρ34 (wr R.2 1 1 0) := ⟨_, rfl⟩
    rw [← eN] at hN
    have gE : (rdE f L M).2.1 = 0 := by rw [← eE]; exact g
    have N9 : ∀ r k : Nat, 4 ≤ r → r ≤ 9 → N r k = R.2 r k := fun r k h4 h9 => by rw [eN, pr_o (by omega), wr_na (by omega)]
    have evw : vw 20 N = vw 20 M := by
      funext r j
      exact hN.1 (20 + r) j (by omega) (by omega) (by omega)
    have esu : su N = su M := su_f (fun b j h10 h15 => hN.1 b j (by omega) (by omega) (by omega))
    have n1 : N 62 1 = h := (hN.1 62 1 (by decide) (by decide) (by decide)).trans h1
    have n2 : 0 ≤ N 62 2 ∧ N 62 2 ≤ 8 := by rw [hN.1 62 2 (by decide) (by decide) (by decide)]; exact h2
    obtain ⟨c, ec⟩ : ∃ c, c = (R.2 4 5).toNat := ⟨_, rfl⟩
    obtain ⟨-, -, w3⟩ := wr_2 (f := f) (L := L) (st0 f L, sc0 M) hI (by have := gE; unfold rdE at this; exact (gm_0 (show (1 : Int) ≠ 0 by decide) this).1)
    have w3 : ∀ k : Nat, k < c → okC R.2 k := fun k hk => by
      rw [eR]
      refine w3 k ?_ (by rw [ec, eR] at hk; exact hk)
      show ((sc0 M) 4 5).toNat ≤ k
      unfold sc0
      rw [wr_ni (by decide), wr_ni (by decide), wr_s]
      exact Nat.zero_le k
    have hw9 := hw gE
    rw [← eR, ← ec] at hw9
    refine go_mem (show _ = N from eN.symm) ?_
    refine go_aload_n (y := mX10_runScript) (pc := 57) dX10_runScript_57 rfl rfl ?_
    refine go_getR (y := mX10_runScript) (pc := 58) dX10_runScript_58 fl_X10_57 rfl rfl (by decide) ?_
    refine go_aload_n (y := mX10_runScript) (pc := 61) dX10_runScript_61 rfl rfl ?_
    refine go_getR (y := mX10_runScript) (pc := 62) dX10_runScript_62 fl_X10_47 rfl rfl (by decide) ?_
    refine go_mem (put_v 20 N).symm ?_
    refine go_callV1 (y := mX10_runScript) (pc := 65) (y' := mX2_remember) (kc2 := 0) (ks2 := 0) dX10_runScript_65 ml_X10_139 ok_X2_remember (show shp 62 = _ from rfl) ⟨_, _, rfl⟩ (by decide) rfl (by decide) (Nat.le_of_ble_eq_true rfl) rfl (g_remember hh n1 n2 (fun τ hτ => ?_))
    have hτ' : eqC τ (vw 20 M) := by rw [← evw]; exact hτ
    have O9 : ∀ r k : Nat, 4 ≤ r → r ≤ 9 → hst N h τ r k = R.2 r k := fun r k h4 h9 => (hst_o (by omega)).trans (N9 r k h4 h9)
    have hst_e : xs (vw 20 N, 0, false) (hst N h τ) = put 20 (vw 20 N) (hst N h τ) := by
      show put 20 (vw 20 N) (wr (wr (hst N h τ) 4 6 0) 4 7 0) = put 20 (vw 20 N) (hst N h τ)
      rw [wr_id (a := 4) (i := 6) (by rw [O9 4 6 (by decide) (by decide)]; exact F46), wr_id (a := 4) (i := 7) (by rw [O9 4 7 (by decide) (by decide)]; exact F47)]
    have esu2 : su (hst N h τ) = su M := su_hst.trans esu
    have hP : okP (hst N h τ) c := ⟨by omega, fun k hk => okC_f (w3 k hk) (fun r h5 h8 => O9 r k (by omega) (by omega))⟩
    have hwN : wfb (hst N h τ) 2 n 0 c := wfb_f (fun k _ _ => ⟨O9 5 k (by decide) (by decide), O9 9 k (by decide) (by decide)⟩) hw9
    have eX : rnB (hst N h τ) (su (hst N h τ)) n 0 c (vw 20 N, 0, false) = rnX f L M n := by
      rw [rnB_f (fun r k h5 h9 => O9 r k (by omega) h9), esu2, evw, ec, eR]
      rfl
    refine go_mem (show _ = put 20 (vw 20 N) (hst N h τ) from rfl) ?_
    refine go_aload_n (y := mX10_runScript) (pc := 68) dX10_runScript_68 rfl rfl ?_
    refine go_getR (y := mX10_runScript) (pc := 69) dX10_runScript_69 fl_X10_28 rfl rfl (by decide) ?_
    refine go_aload_n (y := mX10_runScript) (pc := 72) dX10_runScript_72 rfl rfl ?_
    refine go_getR (y := mX10_runScript) (pc := 73) dX10_runScript_73 fl_X10_47 rfl rfl (by decide) ?_
    refine go_iconst (y := mX10_runScript) (pc := 76) dX10_runScript_76 ?_
    refine go_aload_n (y := mX10_runScript) (pc := 77) dX10_runScript_77 rfl rfl ?_
    refine go_getR (y := mX10_runScript) (pc := 78) dX10_runScript_78 fl_X10_28 rfl rfl (by decide) ?_
    refine go_bget (y := mX10_runScript) (pc := 81) dX10_runScript_81 fl_X10_143 rfl rfl (by decide) (by decide) (fun r81 => ?_)
    refine go_top (b := ((c : Nat) : Int)) ((by rw [O9 4 5 (by decide) (by decide)]; omega)) (fun t81 => ?_)
    refine go_iconst (y := mX10_runScript) (pc := 84) dX10_runScript_84 ?_
    refine go_mem hst_e.symm ?_
    refine go_callVN4 (y := mX10_runScript) (pc := 85) (y' := mX6_runBlock) (kc2 := 0) (ks2 := 0) dX10_runScript_85 ml_X10_146 ok_X6_runBlock (show shp 4 = _ from rfl) ⟨_, _, rfl⟩ (by decide) ⟨rfl, rfl, rfl, rfl⟩ (by decide) (Nat.le_of_ble_eq_true rfl) rfl (r_runBlock2 (b9 := c) (x := (vw 20 N, 0, false)) hwN (Nat.zero_le 30) hP (Nat.le_refl c) (by rw [esu2]; exact hS) ⟨by rw [esu2, evw]; exact hC, Int.le_refl 0, show (0 : Int) ≤ 40 by decide⟩ ?_)
    refine go_mem (show _ = xs (rnX f L M n) (hst N h τ) by rw [eX]) ?_
    refine go_aload_n (y := mX10_runScript) (pc := 88) dX10_runScript_88 rfl rfl ?_
    refine go_getR (y := mX10_runScript) (pc := 89) dX10_runScript_89 fl_X10_28 rfl rfl (by decide) ?_
    refine go_bget (y := mX10_runScript) (pc := 92) dX10_runScript_92 fl_X10_150 rfl rfl (by decide) (by decide) (fun r92 => ?_)
    refine go_top (b := (rnX f L M n).2.1) ((by rw [wr_ni (by decide), wr_s])) (fun t92 => ?_)
    refine go_ireturn (y := mX10_runScript) (pc := 95) dX10_runScript_95 rfl ?_
    exact K gE N τ hN hτ'
  · skip
    have g := bI_0 e49 h52
    refine go_iconst (y := mX10_runScript) (pc := 55) dX10_runScript_55 ?_
    refine go_ireturn (y := mX10_runScript) (pc := 56) dX10_runScript_56 rfl ?_
    exact K2 (by rw [← eE]; exact g) _ (hN ρ34 e34)
end RunS
