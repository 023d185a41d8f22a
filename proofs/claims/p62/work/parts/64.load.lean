/-! THE CLASS TAKES A SETUP -/
theorem mst_o {f : Int → Int} {L : Nat} {x : Sta × Mem} {b j : Nat} (h : b < 15 ∨ 20 ≤ b) : (mst f L x).2 b j = x.2 b j := by
  unfold mst
  show (if (mq6 f L x.1 x.2).2.1 = 0 then mwr f L x.1 x.2 else x.2) b j = x.2 b j
  by_cases g : (mq6 f L x.1 x.2).2.1 = 0
  · rw [if_pos g]
    unfold mwr
    rw [wr_na (by omega), wr_na (by omega), wr_na (by omega), wr_na (by omega), wr_na (by omega)]
  · rw [if_neg g]
theorem rdl_o {f : Int → Int} {L : Nat} {b j : Nat} (h : b < 15 ∨ 20 ≤ b) : ∀ (n : Nat) (x : Sta × Mem), (rdl f L n x).2 b j = x.2 b j
  | 0, _ => rfl
  | n + 1, x => by
    rw [rdl]
    by_cases g : x.1.2.1 = 0 ∧ tkK f x.1.1 ≠ 0
    · rw [if_pos g, rdl_o h n, mst_o h]
    · rw [if_neg g]
theorem hdm_o {f : Int → Int} {L : Nat} {s : Sta} {μ : Mem} {b j : Nat} (h : b < 15 ∨ 20 ≤ b) : (hdm f L s μ).2 b j = μ b j := by
  unfold hdm
  dsimp only
  rw [wr_na (by omega), wr_na (by omega), wr_na (by omega), wr_na (by omega), wr_na (by omega), wr_na (by omega), wr_na (by omega), wr_na (by omega)]
theorem rdS_o {f : Int → Int} {L : Nat} {s : Sta} {μ : Mem} {b j : Nat} (h : b < 15 ∨ 20 ≤ b) : (rdS f L s μ).2 b j = μ b j := by
  unfold rdS
  rw [rdl_o h, mst_o h, hdm_o h]
/-- the setup copied from the draft -/
def cps (μ : Mem) : Mem := cpy (cpy (cpy (cpy (wr (wr (wr (wr (wr (wr (wr (wr μ 10 0 (μ 15 0)) 10 1 (μ 15 1)) 10 2 (μ 15 2)) 10 3 (μ 15 3)) 10 4 (μ 15 4)) 10 5 (μ 15 5)) 10 6 (μ 15 6)) 10 7 (μ 15 7)) 16 11 12) 17 12 12) 18 13 12) 19 14 12
theorem cps_o {μ : Mem} {b j : Nat} (h : b < 10 ∨ 15 ≤ b) : cps μ b j = μ b j := by
  unfold cps
  rw [cpy_na (by omega), cpy_na (by omega), cpy_na (by omega), cpy_na (by omega), wr_na (by omega), wr_na (by omega), wr_na (by omega), wr_na (by omega), wr_na (by omega), wr_na (by omega), wr_na (by omega), wr_na (by omega)]
theorem cps_0 {μ : Mem} {j : Nat} (h : j < 8) : cps μ 10 j = μ 15 j := by
  unfold cps
  rw [cpy_na (by decide), cpy_na (by decide), cpy_na (by decide), cpy_na (by decide)]
  have e : j = 0 ∨ j = 1 ∨ j = 2 ∨ j = 3 ∨ j = 4 ∨ j = 5 ∨ j = 6 ∨ j = 7 := by omega
  rcases e with rfl | rfl | rfl | rfl | rfl | rfl | rfl | rfl <;> rfl
theorem cps_r {μ : Mem} {r j : Nat} (hr : 1 ≤ r ∧ r ≤ 4) (h : j < 12) : cps μ (10 + r) j = μ (15 + r) j := by
  have e : r = 1 ∨ r = 2 ∨ r = 3 ∨ r = 4 := by omega
  unfold cps
  rcases e with rfl | rfl | rfl | rfl
  · rw [cpy_na (by decide), cpy_na (by decide), cpy_na (by decide), cpy_in h, wr_na (by decide), wr_na (by decide), wr_na (by decide), wr_na (by decide), wr_na (by decide), wr_na (by decide), wr_na (by decide), wr_na (by decide)]
  · rw [cpy_na (by decide), cpy_na (by decide), cpy_in h, cpy_na (by decide), wr_na (by decide), wr_na (by decide), wr_na (by decide), wr_na (by decide), wr_na (by decide), wr_na (by decide), wr_na (by decide), wr_na (by decide)]
  · rw [cpy_na (by decide), cpy_in h, cpy_na (by decide), cpy_na (by decide), wr_na (by decide), wr_na (by decide), wr_na (by decide), wr_na (by decide), wr_na (by decide), wr_na (by decide), wr_na (by decide), wr_na (by decide)]
  · rw [cpy_in h, cpy_na (by decide), cpy_na (by decide), cpy_na (by decide), wr_na (by decide), wr_na (by decide), wr_na (by decide), wr_na (by decide), wr_na (by decide), wr_na (by decide), wr_na (by decide), wr_na (by decide)]
set_option maxRecDepth 8000 in
set_option maxHeartbeats 4000000 in
theorem s_copyFrom {μ : Mem} {Q : Option Value → Mem → Prop} {X : String → Mem → Prop} (K : Q none (cps μ)) : mt 276 1 0 0 mX7_copyFrom [.ref 10, .ref 15] Q X μ := by
  show go 276 1 0 0 mX7_copyFrom Q X 0 [.ref 10, .ref 15] [] _
  refine go_aload_n (y := mX7_copyFrom) (pc := 0) dX7_copyFrom_0 rfl rfl ?_
  refine go_aload_n (y := mX7_copyFrom) (pc := 1) dX7_copyFrom_1 rfl rfl ?_
  refine go_getI (y := mX7_copyFrom) (pc := 2) dX7_copyFrom_2 fl_X7_24 rfl rfl (by decide) (fun r2 => ?_)
  refine go_putI (y := mX7_copyFrom) (pc := 5) dX7_copyFrom_5 fp_X7_24 rfl rfl (by decide) (by omega) ?_
  refine go_aload_n (y := mX7_copyFrom) (pc := 8) dX7_copyFrom_8 rfl rfl ?_
  refine go_aload_n (y := mX7_copyFrom) (pc := 9) dX7_copyFrom_9 rfl rfl ?_
  refine go_getI (y := mX7_copyFrom) (pc := 10) dX7_copyFrom_10 fl_X7_28 rfl rfl (by decide) (fun r10 => ?_)
  refine go_top (b := μ 15 1) ((by simp only [wr_na (show (15 : Nat) ≠ 10 by decide)])) (fun t10 => ?_)
  refine go_putI (y := mX7_copyFrom) (pc := 13) dX7_copyFrom_13 fp_X7_28 rfl rfl (by decide) (by omega) ?_
  refine go_aload_n (y := mX7_copyFrom) (pc := 16) dX7_copyFrom_16 rfl rfl ?_
  refine go_aload_n (y := mX7_copyFrom) (pc := 17) dX7_copyFrom_17 rfl rfl ?_
  refine go_getI (y := mX7_copyFrom) (pc := 18) dX7_copyFrom_18 fl_X7_31 rfl rfl (by decide) (fun r18 => ?_)
  refine go_top (b := μ 15 2) ((by simp only [wr_na (show (15 : Nat) ≠ 10 by decide)])) (fun t18 => ?_)
  refine go_putI (y := mX7_copyFrom) (pc := 21) dX7_copyFrom_21 fp_X7_31 rfl rfl (by decide) (by omega) ?_
  refine go_aload_n (y := mX7_copyFrom) (pc := 24) dX7_copyFrom_24 rfl rfl ?_
  refine go_aload_n (y := mX7_copyFrom) (pc := 25) dX7_copyFrom_25 rfl rfl ?_
  refine go_getI (y := mX7_copyFrom) (pc := 26) dX7_copyFrom_26 fl_X7_34 rfl rfl (by decide) (fun r26 => ?_)
  refine go_top (b := μ 15 3) ((by simp only [wr_na (show (15 : Nat) ≠ 10 by decide)])) (fun t26 => ?_)
  refine go_putI (y := mX7_copyFrom) (pc := 29) dX7_copyFrom_29 fp_X7_34 rfl rfl (by decide) (by omega) ?_
  refine go_aload_n (y := mX7_copyFrom) (pc := 32) dX7_copyFrom_32 rfl rfl ?_
  refine go_aload_n (y := mX7_copyFrom) (pc := 33) dX7_copyFrom_33 rfl rfl ?_
  refine go_getI (y := mX7_copyFrom) (pc := 34) dX7_copyFrom_34 fl_X7_37 rfl rfl (by decide) (fun r34 => ?_)
  refine go_top (b := μ 15 4) ((by simp only [wr_na (show (15 : Nat) ≠ 10 by decide)])) (fun t34 => ?_)
  refine go_putI (y := mX7_copyFrom) (pc := 37) dX7_copyFrom_37 fp_X7_37 rfl rfl (by decide) (by omega) ?_
  refine go_aload_n (y := mX7_copyFrom) (pc := 40) dX7_copyFrom_40 rfl rfl ?_
  refine go_aload_n (y := mX7_copyFrom) (pc := 41) dX7_copyFrom_41 rfl rfl ?_
  refine go_getI (y := mX7_copyFrom) (pc := 42) dX7_copyFrom_42 fl_X7_40 rfl rfl (by decide) (fun r42 => ?_)
  refine go_top (b := μ 15 5) ((by simp only [wr_na (show (15 : Nat) ≠ 10 by decide)])) (fun t42 => ?_)
  refine go_putI (y := mX7_copyFrom) (pc := 45) dX7_copyFrom_45 fp_X7_40 rfl rfl (by decide) (by omega) ?_
  refine go_aload_n (y := mX7_copyFrom) (pc := 48) dX7_copyFrom_48 rfl rfl ?_
  refine go_aload_n (y := mX7_copyFrom) (pc := 49) dX7_copyFrom_49 rfl rfl ?_
  refine go_getI (y := mX7_copyFrom) (pc := 50) dX7_copyFrom_50 fl_X7_43 rfl rfl (by decide) (fun r50 => ?_)
  refine go_top (b := μ 15 6) ((by simp only [wr_na (show (15 : Nat) ≠ 10 by decide)])) (fun t50 => ?_)
  refine go_putI (y := mX7_copyFrom) (pc := 53) dX7_copyFrom_53 fp_X7_43 rfl rfl (by decide) (by omega) ?_
  refine go_aload_n (y := mX7_copyFrom) (pc := 56) dX7_copyFrom_56 rfl rfl ?_
  refine go_aload_n (y := mX7_copyFrom) (pc := 57) dX7_copyFrom_57 rfl rfl ?_
  refine go_getI (y := mX7_copyFrom) (pc := 58) dX7_copyFrom_58 fl_X7_46 rfl rfl (by decide) (fun r58 => ?_)
  refine go_top (b := μ 15 7) ((by simp only [wr_na (show (15 : Nat) ≠ 10 by decide)])) (fun t58 => ?_)
  refine go_putI (y := mX7_copyFrom) (pc := 61) dX7_copyFrom_61 fp_X7_46 rfl rfl (by decide) (by omega) ?_
  refine go_aload_n (y := mX7_copyFrom) (pc := 64) dX7_copyFrom_64 rfl rfl ?_
  refine go_getR (y := mX7_copyFrom) (pc := 65) dX7_copyFrom_65 fl_X7_9 rfl rfl (by decide) ?_
  refine go_iconst (y := mX7_copyFrom) (pc := 68) dX7_copyFrom_68 ?_
  refine go_aload_n (y := mX7_copyFrom) (pc := 69) dX7_copyFrom_69 rfl rfl ?_
  refine go_getR (y := mX7_copyFrom) (pc := 70) dX7_copyFrom_70 fl_X7_9 rfl rfl (by decide) ?_
  refine go_iconst (y := mX7_copyFrom) (pc := 73) dX7_copyFrom_73 ?_
  refine go_bipush (y := mX7_copyFrom) (pc := 74) dX7_copyFrom_74 (by decide) ?_
  refine go_copy (y := mX7_copyFrom) (pc := 76) (k := 12) dX7_copyFrom_76 ml_X7_49 rfl rfl (by decide) (by decide) rfl (by decide) (by decide) (by decide) (by decide) (Nat.le_of_ble_eq_true rfl) ?_
  refine go_aload_n (y := mX7_copyFrom) (pc := 79) dX7_copyFrom_79 rfl rfl ?_
  refine go_getR (y := mX7_copyFrom) (pc := 80) dX7_copyFrom_80 fl_X7_15 rfl rfl (by decide) ?_
  refine go_iconst (y := mX7_copyFrom) (pc := 83) dX7_copyFrom_83 ?_
  refine go_aload_n (y := mX7_copyFrom) (pc := 84) dX7_copyFrom_84 rfl rfl ?_
  refine go_getR (y := mX7_copyFrom) (pc := 85) dX7_copyFrom_85 fl_X7_15 rfl rfl (by decide) ?_
  refine go_iconst (y := mX7_copyFrom) (pc := 88) dX7_copyFrom_88 ?_
  refine go_bipush (y := mX7_copyFrom) (pc := 89) dX7_copyFrom_89 (by decide) ?_
  refine go_copy (y := mX7_copyFrom) (pc := 91) (k := 12) dX7_copyFrom_91 ml_X7_49 rfl rfl (by decide) (by decide) rfl (by decide) (by decide) (by decide) (by decide) (Nat.le_of_ble_eq_true rfl) ?_
  refine go_aload_n (y := mX7_copyFrom) (pc := 94) dX7_copyFrom_94 rfl rfl ?_
  refine go_getR (y := mX7_copyFrom) (pc := 95) dX7_copyFrom_95 fl_X7_18 rfl rfl (by decide) ?_
  refine go_iconst (y := mX7_copyFrom) (pc := 98) dX7_copyFrom_98 ?_
  refine go_aload_n (y := mX7_copyFrom) (pc := 99) dX7_copyFrom_99 rfl rfl ?_
  refine go_getR (y := mX7_copyFrom) (pc := 100) dX7_copyFrom_100 fl_X7_18 rfl rfl (by decide) ?_
  refine go_iconst (y := mX7_copyFrom) (pc := 103) dX7_copyFrom_103 ?_
  refine go_bipush (y := mX7_copyFrom) (pc := 104) dX7_copyFrom_104 (by decide) ?_
  refine go_copy (y := mX7_copyFrom) (pc := 106) (k := 12) dX7_copyFrom_106 ml_X7_49 rfl rfl (by decide) (by decide) rfl (by decide) (by decide) (by decide) (by decide) (Nat.le_of_ble_eq_true rfl) ?_
  refine go_aload_n (y := mX7_copyFrom) (pc := 109) dX7_copyFrom_109 rfl rfl ?_
  refine go_getR (y := mX7_copyFrom) (pc := 110) dX7_copyFrom_110 fl_X7_21 rfl rfl (by decide) ?_
  refine go_iconst (y := mX7_copyFrom) (pc := 113) dX7_copyFrom_113 ?_
  refine go_aload_n (y := mX7_copyFrom) (pc := 114) dX7_copyFrom_114 rfl rfl ?_
  refine go_getR (y := mX7_copyFrom) (pc := 115) dX7_copyFrom_115 fl_X7_21 rfl rfl (by decide) ?_
  refine go_iconst (y := mX7_copyFrom) (pc := 118) dX7_copyFrom_118 ?_
  refine go_bipush (y := mX7_copyFrom) (pc := 119) dX7_copyFrom_119 (by decide) ?_
  refine go_copy (y := mX7_copyFrom) (pc := 121) (k := 12) dX7_copyFrom_121 ml_X7_49 rfl rfl (by decide) (by decide) rfl (by decide) (by decide) (by decide) (by decide) (Nat.le_of_ble_eq_true rfl) ?_
  refine go_return (y := mX7_copyFrom) (pc := 124) dX7_copyFrom_124 rfl ?_
  exact K
set_option maxRecDepth 8000 in
set_option maxHeartbeats 4000000 in
theorem u_isFine {ρ : Nat → Int} {μ : Mem} {c : Int} (h4 : ρ 4 = c) {Q : Option Value → Mem → Prop} {X : String → Mem → Prop} (K : ∀ v, v = bI (c = 0) → v = 0 ∨ v = 1 → Q (some (.int (iI v))) (pr ρ μ)) : mt 276 0 0 0 mX9_isFine [.ref 3] Q X (pr ρ μ) := by
  show go 276 0 0 0 mX9_isFine Q X 0 [.ref 3] [] _
  refine go_aload_n (y := mX9_isFine) (pc := 0) dX9_isFine_0 rfl rfl ?_
  refine go_rget (y := mX9_isFine) (pc := 1) dX9_isFine_1 fl_X9_15 rfl rfl (by decide) (fun r1 => ?_)
  refine go_top (b := c) (h4) (fun t1 => ?_)
  refine go_if_ne (y := mX9_isFine) (pc := 4) (tgt := 11) dX9_isFine_4 (by decide) (by omega) (fun h4 => ?_) (fun h4 => ?_)
  · skip
    refine go_iconst (y := mX9_isFine) (pc := 11) dX9_isFine_11 ?_
    refine go_zreturn (y := mX9_isFine) (pc := 12) dX9_isFine_12 rfl (by omega) ?_
    exact K 0 (bI_f (by omega)).symm (by omega)
  · skip
    refine go_iconst (y := mX9_isFine) (pc := 7) dX9_isFine_7 ?_
    refine go_goto (y := mX9_isFine) (pc := 8) (tgt := 12) dX9_isFine_8 (by decide) ?_
    refine go_zreturn (y := mX9_isFine) (pc := 12) dX9_isFine_12 rfl (by omega) ?_
    exact K 1 (bI_t (by omega)).symm (by omega)
def clr (S s : Mem) : Mem := wr (wr (wr (wr (wr (wr (clk (wr (wr (mck S s 12) 5 0 0) 11 0 0) 4) 0 5 0) 0 6 0) 0 7 0) 0 8 0) 0 9 0) 0 10 0
def st0 (f : Int → Int) (L : Nat) : Sta := (tkB f L 0, 0, -1)
/-- behind a setup that was taken; behind one that was not -/
def tkS (f : Int → Int) (L : Nat) (M μ' : Mem) : Prop := (∀ b j, b ≠ 1 → b ≠ 3 → (b < 10 ∨ 20 ≤ b) → μ' b j = M b j) ∧ μ' 1 1 = 0 ∧ μ' 3 4 = 0 ∧ μ' 3 5 = (rdS f L (st0 f L) M).1.2.2 ∧ (∀ j, j < 8 → μ' 10 j = (rdS f L (st0 f L) M).2 15 j) ∧ (∀ r j, 1 ≤ r → r ≤ 4 → j < 12 → μ' (10 + r) j = (rdS f L (st0 f L) M).2 (15 + r) j)
def tkN (f : Int → Int) (L : Nat) (M μ' : Mem) : Prop := (∀ b j, b ≠ 1 → b ≠ 3 → (b < 15 ∨ 20 ≤ b) → μ' b j = M b j) ∧ μ' 1 1 = 0 ∧ μ' 3 4 = (rdS f L (st0 f L) M).1.2.1 ∧ μ' 3 5 = (rdS f L (st0 f L) M).1.2.2
def tkE9 (μ' : Mem) : Mem := put 20 (clr (su μ') (vw 20 μ')) (wr (wr (wr μ' 62 2 0) 275 0 0) 275 1 0)
section Take
variable {f : Int → Int} {L : Nat} {M : Mem}
set_option maxRecDepth 8000 in
set_option maxHeartbeats 4000000 in
theorem g_takeSetup (ht : okT f L M) {Q : Option Value → Mem → Prop} {X : String → Mem → Prop} (K : (rdS f L (st0 f L) M).1.2.1 = 0 → ∀ μ', tkS f L M μ' → Q none (tkE9 μ')) (K2 : (rdS f L (st0 f L) M).1.2.1 ≠ 0 → ∀ μ', tkN f L M μ' → Q none μ') : mt 276 8 0 0 mX10_takeSetup [.ref 0] Q X M := by
  show go 276 8 0 0 mX10_takeSetup Q X 0 [.ref 0, .null] [] _
  obtain ⟨R, eR⟩ : ∃ R, R = rdS f L (st0 f L) M := ⟨_, rfl⟩
  have o9 : ∀ b j, (b < 15 ∨ 20 ≤ b) → R.2 b j = M b j := fun b j h => by rw [eR]; exact rdS_o h
  have loop : ∀ (σ : Mem) (μ1 : Mem), Q none (put 20 σ (wr (wr μ1 275 0 0) 275 1 0)) → go 276 8 0 0 mX10_takeSetup Q X 63 [.ref 0, .int (iI 0)] [] (put 20 σ μ1) := by
    intro σ μ1 hQ
    refine go_iload_n (y := mX10_takeSetup) (pc := 63) dX10_takeSetup_63 rfl rfl ?_
    refine go_iconst (y := mX10_takeSetup) (pc := 64) dX10_takeSetup_64 ?_
    refine go_icmp_ge (y := mX10_takeSetup) (pc := 65) (tgt := 81) dX10_takeSetup_65 (by decide) (by omega) (by omega) (fun h65 => ?_) (fun h65 => ?_)
    · skip
      exact absurd h65 (by decide)
    · skip
      refine go_aload_n (y := mX10_takeSetup) (pc := 68) dX10_takeSetup_68 rfl rfl ?_
      refine go_getR (y := mX10_takeSetup) (pc := 69) dX10_takeSetup_69 fl_X10_65 rfl rfl (by decide) ?_
      refine go_iload_n (y := mX10_takeSetup) (pc := 72) dX10_takeSetup_72 rfl rfl ?_
      refine go_iconst (y := mX10_takeSetup) (pc := 73) dX10_takeSetup_73 ?_
      refine go_bzas (y := mX10_takeSetup) (pc := 74) (k := 0) dX10_takeSetup_74 rfl (by decide) (by decide) rfl (by decide) (by decide) (by omega) ?_
      refine go_iinc (y := mX10_takeSetup) (pc := 75) dX10_takeSetup_75 rfl (by decide) ?_
      refine go_goto (y := mX10_takeSetup) (pc := 78) (tgt := 63) dX10_takeSetup_78 (by decide) ?_
      refine go_iload_n (y := mX10_takeSetup) (pc := 63) dX10_takeSetup_63 rfl rfl ?_
      refine go_iconst (y := mX10_takeSetup) (pc := 64) dX10_takeSetup_64 ?_
      refine go_icmp_ge (y := mX10_takeSetup) (pc := 65) (tgt := 81) dX10_takeSetup_65 (by decide) (by omega) (by omega) (fun h65 => ?_) (fun h65 => ?_)
      · skip
        exact absurd h65 (by decide)
      · skip
        refine go_aload_n (y := mX10_takeSetup) (pc := 68) dX10_takeSetup_68 rfl rfl ?_
        refine go_getR (y := mX10_takeSetup) (pc := 69) dX10_takeSetup_69 fl_X10_65 rfl rfl (by decide) ?_
        refine go_iload_n (y := mX10_takeSetup) (pc := 72) dX10_takeSetup_72 rfl rfl ?_
        refine go_iconst (y := mX10_takeSetup) (pc := 73) dX10_takeSetup_73 ?_
        refine go_bzas (y := mX10_takeSetup) (pc := 74) (k := 1) dX10_takeSetup_74 rfl (by decide) (by decide) rfl (by decide) (by decide) (by omega) ?_
        refine go_iinc (y := mX10_takeSetup) (pc := 75) dX10_takeSetup_75 rfl (by decide) ?_
        refine go_goto (y := mX10_takeSetup) (pc := 78) (tgt := 63) dX10_takeSetup_78 (by decide) ?_
        refine go_iload_n (y := mX10_takeSetup) (pc := 63) dX10_takeSetup_63 rfl rfl ?_
        refine go_iconst (y := mX10_takeSetup) (pc := 64) dX10_takeSetup_64 ?_
        refine go_icmp_ge (y := mX10_takeSetup) (pc := 65) (tgt := 81) dX10_takeSetup_65 (by decide) (by omega) (by omega) (fun h65 => ?_) (fun h65 => ?_)
        · skip
          refine go_return (y := mX10_takeSetup) (pc := 81) dX10_takeSetup_81 rfl ?_
          exact hQ
        · skip
          exact absurd h65 (by decide)
  refine go_aload_n (y := mX10_takeSetup) (pc := 0) dX10_takeSetup_0 rfl rfl ?_
  refine go_getR (y := mX10_takeSetup) (pc := 1) dX10_takeSetup_1 fl_X10_21 rfl rfl (by decide) ?_
  refine go_mem (pr_v M).symm ?_
  refine go_callV0 (y := mX10_takeSetup) (pc := 4) (y' := mX9_start) (kc2 := 0) (ks2 := 0) dX10_takeSetup_4 ml_X10_111 ok_X9_start (show shp 3 = _ from rfl) ⟨_, _, rfl⟩ (by decide) trivial (by decide) (Nat.le_of_ble_eq_true rfl) rfl (f_start ht (fun ρ4 e4 => ?_))
  refine go_aload_n (y := mX10_takeSetup) (pc := 7) dX10_takeSetup_7 rfl rfl ?_
  refine go_getR (y := mX10_takeSetup) (pc := 8) dX10_takeSetup_8 fl_X10_39 rfl rfl (by decide) ?_
  refine go_aload_n (y := mX10_takeSetup) (pc := 11) dX10_takeSetup_11 rfl rfl ?_
  refine go_getR (y := mX10_takeSetup) (pc := 12) dX10_takeSetup_12 fl_X10_21 rfl rfl (by decide) ?_
  refine go_callV1 (y := mX10_takeSetup) (pc := 15) (y' := mX7_readFrom) (kc2 := 0) (ks2 := 0) dX10_takeSetup_15 ml_X10_114 ok_X7_readFrom (show shp 15 = _ from rfl) ⟨_, _, rfl⟩ (by decide) rfl (by decide) (Nat.le_of_ble_eq_true rfl) rfl (f_readFrom ht e4 (fun ρ15 e15 => ?_))
  rw [show rdS f L (tkB f L 0, 0, -1) M = R from eR.symm] at e15 ⊢
  refine go_aload_n (y := mX10_takeSetup) (pc := 18) dX10_takeSetup_18 rfl rfl ?_
  refine go_getR (y := mX10_takeSetup) (pc := 19) dX10_takeSetup_19 fl_X10_10 rfl rfl (by decide) ?_
  refine go_iconst (y := mX10_takeSetup) (pc := 22) dX10_takeSetup_22 ?_
  refine go_tput (y := mX10_takeSetup) (pc := 23) dX10_takeSetup_23 fp_X10_89 rfl rfl (by decide) (by decide) (by omega) ?_
  refine go_aload_n (y := mX10_takeSetup) (pc := 26) dX10_takeSetup_26 rfl rfl ?_
  refine go_getR (y := mX10_takeSetup) (pc := 27) dX10_takeSetup_27 fl_X10_21 rfl rfl (by decide) ?_
  refine go_callV0 (y := mX10_takeSetup) (pc := 30) (y' := mX9_isFine) (kc2 := 0) (ks2 := 0) dX10_takeSetup_30 ml_X10_118 ok_X9_isFine (show shp 3 = _ from rfl) ⟨_, _, rfl⟩ (by decide) trivial (by decide) (Nat.le_of_ble_eq_true rfl) rfl (u_isFine (c := R.1.2.1) e15.2.2.2.1 (fun v30 e30 b30 => ?_))
  refine go_if_eq (y := mX10_takeSetup) (pc := 33) (tgt := 81) dX10_takeSetup_33 (by decide) (by omega) (fun h33 => ?_) (fun h33 => ?_)
  · skip
    have g := bI_0 e30 h33
    refine go_return (y := mX10_takeSetup) (pc := 81) dX10_takeSetup_81 rfl ?_
    rw [← eR] at K2
    refine K2 g _ ⟨fun b j h1 h3 hb => ?_, ?_, ?_, ?_⟩
    · rw [pr_o h3, wr_na h1]
      exact o9 b j hb
    · rw [pr_o (by decide), wr_s]
    · rw [pr_r, ← eR]
      exact e15.2.2.2.1
    · rw [pr_r, ← eR]
      exact e15.2.2.2.2.1
  · skip
    have g := bI_1 e30 h33
    obtain ⟨N, eN⟩ : ∃ N, N = cps (pr ρ15 (wr R.2 1 1 0)) := ⟨_, rfl⟩
    have hN : tkS f L M N := by
      refine ⟨fun b j h1 h3 hb => ?_, ?_, ?_, ?_, fun j hj => ?_, fun r j hr1 hr2 hj => ?_⟩
      · rw [eN, cps_o (by omega), pr_o h3, wr_na h1]
        exact o9 b j (by omega)
      · rw [eN, cps_o (by decide), pr_o (by decide), wr_s]
      · rw [eN, cps_o (by decide), pr_r]
        exact e15.2.2.2.1.trans g
      · rw [eN, cps_o (by decide), pr_r, ← eR]
        exact e15.2.2.2.2.1
      · rw [eN, cps_0 hj, pr_o (by decide), wr_na (by decide), ← eR]
      · rw [eN, cps_r ⟨hr1, hr2⟩ hj, pr_o (by omega), wr_na (by omega), ← eR]
    refine go_aload_n (y := mX10_takeSetup) (pc := 36) dX10_takeSetup_36 rfl rfl ?_
    refine go_getR (y := mX10_takeSetup) (pc := 37) dX10_takeSetup_37 fl_X10_35 rfl rfl (by decide) ?_
    refine go_aload_n (y := mX10_takeSetup) (pc := 40) dX10_takeSetup_40 rfl rfl ?_
    refine go_getR (y := mX10_takeSetup) (pc := 41) dX10_takeSetup_41 fl_X10_39 rfl rfl (by decide) ?_
    refine go_callV1 (y := mX10_takeSetup) (pc := 44) (y' := mX7_copyFrom) (kc2 := 0) (ks2 := 0) dX10_takeSetup_44 ml_X10_122 ok_X7_copyFrom (show shp 10 = _ from rfl) ⟨_, _, rfl⟩ (by decide) rfl (by decide) (Nat.le_of_ble_eq_true rfl) rfl (s_copyFrom ?_)
    refine go_mem (show _ = N from eN.symm) ?_
    refine go_aload_n (y := mX10_takeSetup) (pc := 47) dX10_takeSetup_47 rfl rfl ?_
    refine go_getR (y := mX10_takeSetup) (pc := 48) dX10_takeSetup_48 fl_X10_47 rfl rfl (by decide) ?_
    refine go_mem (put_v 20 N).symm ?_
    refine go_callV0 (y := mX10_takeSetup) (pc := 51) (y' := mX1_clear) (kc2 := 0) (ks2 := 0) dX10_takeSetup_51 ml_X10_125 ok_X1_clear (ch_sh h20 0 (by decide)) ⟨_, _, rfl⟩ (ch_z (r := 0) h20 (by decide)) trivial (by decide) (Nat.le_of_ble_eq_true rfl) rfl (c_clear h20 ?_)
    refine go_aload_n (y := mX10_takeSetup) (pc := 54) dX10_takeSetup_54 rfl rfl ?_
    refine go_getR (y := mX10_takeSetup) (pc := 55) dX10_takeSetup_55 fl_X10_57 rfl rfl (by decide) ?_
    refine go_callV0 (y := mX10_takeSetup) (pc := 58) (y' := mX2_forget) (kc2 := 0) (ks2 := 0) dX10_takeSetup_58 ml_X10_128 ok_X2_forget (show shp 62 = _ from rfl) ⟨_, _, rfl⟩ (by decide) trivial (by decide) (Nat.le_of_ble_eq_true rfl) rfl (g_forget ?_)
    refine go_iconst (y := mX10_takeSetup) (pc := 61) dX10_takeSetup_61 ?_
    refine go_istore_n (y := mX10_takeSetup) (pc := 62) dX10_takeSetup_62 rfl (by decide) ?_
    rw [← eR] at K
    exact loop _ _ (K g N hN)
set_option maxRecDepth 8000 in
set_option maxHeartbeats 4000000 in
theorem g_load (ht : okT f L M) {Q : Option Value → Mem → Prop} {X : String → Mem → Prop} (K : (rdS f L (st0 f L) M).1.2.1 = 0 → ∀ μ', tkS f L M μ' → Q (some (.int (iI 0))) (tkE9 μ')) (K2 : (rdS f L (st0 f L) M).1.2.1 ≠ 0 → ∀ μ', tkN f L M μ' → Q (some (.int (iI (rdS f L (st0 f L) M).1.2.1))) μ') : mt 276 9 0 0 mX10_load [.ref 0] Q X M := by
  show go 276 9 0 0 mX10_load Q X 0 [.ref 0] [] _
  by_cases g : (rdS f L (st0 f L) M).1.2.1 = 0
  · skip
    refine go_aload_n (y := mX10_load) (pc := 0) dX10_load_0 rfl rfl ?_
    refine go_callV0 (y := mX10_load) (pc := 1) (y' := mX10_takeSetup) (kc2 := 0) (ks2 := 0) dX10_load_1 ml_X10_82 ok_X10_takeSetup (show shp 0 = _ from rfl) ⟨_, _, rfl⟩ (by decide) trivial (by decide) (Nat.le_of_ble_eq_true rfl) rfl (g_takeSetup ht (fun _ μ1 h1 => ?_) (fun h9 => absurd g h9))
    refine go_aload_n (y := mX10_load) (pc := 4) dX10_load_4 rfl rfl ?_
    refine go_getR (y := mX10_load) (pc := 5) dX10_load_5 fl_X10_21 rfl rfl (by decide) ?_
    refine go_getI (y := mX10_load) (pc := 8) dX10_load_8 fl_X10_108 rfl rfl (by decide) (fun r8 => ?_)
    refine go_top (b := 0) (h1.2.2.1) (fun t8 => ?_)
    refine go_ireturn (y := mX10_load) (pc := 11) dX10_load_11 rfl ?_
    exact K g μ1 h1
  · skip
    refine go_aload_n (y := mX10_load) (pc := 0) dX10_load_0 rfl rfl ?_
    refine go_callV0 (y := mX10_load) (pc := 1) (y' := mX10_takeSetup) (kc2 := 0) (ks2 := 0) dX10_load_1 ml_X10_82 ok_X10_takeSetup (show shp 0 = _ from rfl) ⟨_, _, rfl⟩ (by decide) trivial (by decide) (Nat.le_of_ble_eq_true rfl) rfl (g_takeSetup ht (fun h9 => absurd h9 g) (fun _ μ1 h1 => ?_))
    refine go_aload_n (y := mX10_load) (pc := 4) dX10_load_4 rfl rfl ?_
    refine go_getR (y := mX10_load) (pc := 5) dX10_load_5 fl_X10_21 rfl rfl (by decide) ?_
    refine go_getI (y := mX10_load) (pc := 8) dX10_load_8 fl_X10_108 rfl rfl (by decide) (fun r8 => ?_)
    refine go_top (b := (rdS f L (st0 f L) M).1.2.1) (h1.2.2.1) (fun t8 => ?_)
    refine go_ireturn (y := mX10_load) (pc := 11) dX10_load_11 rfl ?_
    exact K2 g μ1 h1
end Take
