/-! HISTORY -/
set_option maxRecDepth 8000 in
set_option maxHeartbeats 4000000 in
theorem g_remember {σ μ : Mem} {n : Nat} (hn : n < 8) (h1 : μ 62 1 = n) (h2 : 0 ≤ μ 62 2 ∧ μ 62 2 ≤ 8) {Q : Option Value → Mem → Prop} {X : String → Mem → Prop} (K : ∀ τ, eqC τ σ → Q none (put 20 σ (wr (wr (put (64 + 21 * n) τ μ) 62 1 (if n < 7 then (n : Int) + 1 else 0)) 62 2 (min (μ 62 2 + 1) 8)))) : mt 276 3 0 0 mX2_remember [.ref 62, .ref 20] Q X (put 20 σ μ) := by
  show go 276 3 0 0 mX2_remember Q X 0 [.ref 62, .ref 20] [] _
  obtain ⟨c, ec⟩ : ∃ c, c = 64 + 21 * n := ⟨_, rfl⟩
  have hc : is_ch c := ec ▸ h64 hn
  rw [← ec] at K
  have o1 : ∀ τ : Mem, put c τ μ 62 1 = n := fun τ => (put_o (by omega)).trans h1
  have o2 : ∀ (τ : Mem) (v : Int), wr (put c τ μ) 62 1 v 62 2 = μ 62 2 := fun τ v => (wr_ni (by decide)).trans (put_o (by omega))
  refine go_aload_n (y := mX2_remember) (pc := 0) dX2_remember_0 rfl rfl ?_
  refine go_getR (y := mX2_remember) (pc := 1) dX2_remember_1 fl_X2_11 rfl rfl (by decide) ?_
  refine go_aload_n (y := mX2_remember) (pc := 4) dX2_remember_4 rfl rfl ?_
  refine go_bget (y := mX2_remember) (pc := 5) dX2_remember_5 fl_X2_24 rfl rfl (by decide) (by decide) (fun r5 => ?_)
  refine go_top (b := ((n : Nat) : Int)) (h1) (fun t5 => ?_)
  refine go_aaload (y := mX2_remember) (pc := 8) (k := n) (q := c) dX2_remember_8 rfl (by decide) (by omega) (by omega) (by decide) ((k63 hn).trans (congrArg some ec.symm)) ?_
  refine go_aload_n (y := mX2_remember) (pc := 9) dX2_remember_9 rfl rfl ?_
  refine go_mem (put_v c _).symm ?_
  refine go_callV1 (y := mX2_remember) (pc := 10) (y' := mX1_copyFrom) (kc2 := 0) (ks2 := 0) dX2_remember_10 ml_X2_27 ok_X1_copyFrom (ch_sh hc 0 (by decide)) ⟨_, _, rfl⟩ (ch_z (r := 0) hc (by decide)) rfl (by decide) (Nat.le_of_ble_eq_true rfl) rfl (c_copyFrom hc h20 (by omega) ?_)
  refine go_mem (put_c (by omega)) ?_
  refine go_aload_n (y := mX2_remember) (pc := 13) dX2_remember_13 rfl rfl ?_
  refine go_aload_n (y := mX2_remember) (pc := 14) dX2_remember_14 rfl rfl ?_
  refine go_bget (y := mX2_remember) (pc := 15) dX2_remember_15 fl_X2_24 rfl rfl (by decide) (by decide) (fun r15 => ?_)
  refine go_top (b := ((n : Nat) : Int)) (o1 _) (fun t15 => ?_)
  refine go_bipush (y := mX2_remember) (pc := 18) dX2_remember_18 (by decide) ?_
  refine go_icmp_ge (y := mX2_remember) (pc := 20) (tgt := 32) dX2_remember_20 (by decide) (by omega) (by omega) (fun h20 => ?_) (fun h20 => ?_)
  · skip
    refine go_iconst (y := mX2_remember) (pc := 32) dX2_remember_32 ?_
    refine go_bput (y := mX2_remember) (pc := 33) dX2_remember_33 fp_X2_24 rfl rfl (by decide) (by decide) (by omega) ?_
    refine go_aload_n (y := mX2_remember) (pc := 36) dX2_remember_36 rfl rfl ?_
    refine go_aload_n (y := mX2_remember) (pc := 37) dX2_remember_37 rfl rfl ?_
    refine go_bget (y := mX2_remember) (pc := 38) dX2_remember_38 fl_X2_20 rfl rfl (by decide) (by decide) (fun r38 => ?_)
    refine go_top (b := μ 62 2) (o2 _ _) (fun t38 => ?_)
    refine go_iconst (y := mX2_remember) (pc := 41) dX2_remember_41 ?_
    refine go_iadd (y := mX2_remember) (pc := 42) dX2_remember_42 ?_
    refine go_bipush (y := mX2_remember) (pc := 43) dX2_remember_43 (by decide) ?_
    refine go_mmin (y := mX2_remember) (pc := 45) dX2_remember_45 ml_X2_31 (by decide) (Nat.le_of_ble_eq_true rfl) (by omega) (by omega) ?_
    refine go_bput (y := mX2_remember) (pc := 48) dX2_remember_48 fp_X2_20 rfl rfl (by decide) (by decide) (by omega) ?_
    refine go_return (y := mX2_remember) (pc := 51) dX2_remember_51 rfl ?_
    rw [if_neg (by omega)] at K
    exact K _ (eqC_tr (eq_cpC _ _) eq_vput)
  · skip
    refine go_aload_n (y := mX2_remember) (pc := 23) dX2_remember_23 rfl rfl ?_
    refine go_bget (y := mX2_remember) (pc := 24) dX2_remember_24 fl_X2_24 rfl rfl (by decide) (by decide) (fun r24 => ?_)
    refine go_top (b := ((n : Nat) : Int)) (o1 _) (fun t24 => ?_)
    refine go_iconst (y := mX2_remember) (pc := 27) dX2_remember_27 ?_
    refine go_iadd (y := mX2_remember) (pc := 28) dX2_remember_28 ?_
    refine go_goto (y := mX2_remember) (pc := 29) (tgt := 33) dX2_remember_29 (by decide) ?_
    refine go_bput (y := mX2_remember) (pc := 33) dX2_remember_33 fp_X2_24 rfl rfl (by decide) (by decide) (by omega) ?_
    refine go_aload_n (y := mX2_remember) (pc := 36) dX2_remember_36 rfl rfl ?_
    refine go_aload_n (y := mX2_remember) (pc := 37) dX2_remember_37 rfl rfl ?_
    refine go_bget (y := mX2_remember) (pc := 38) dX2_remember_38 fl_X2_20 rfl rfl (by decide) (by decide) (fun r38 => ?_)
    refine go_top (b := μ 62 2) (o2 _ _) (fun t38 => ?_)
    refine go_iconst (y := mX2_remember) (pc := 41) dX2_remember_41 ?_
    refine go_iadd (y := mX2_remember) (pc := 42) dX2_remember_42 ?_
    refine go_bipush (y := mX2_remember) (pc := 43) dX2_remember_43 (by decide) ?_
    refine go_mmin (y := mX2_remember) (pc := 45) dX2_remember_45 ml_X2_31 (by decide) (Nat.le_of_ble_eq_true rfl) (by omega) (by omega) ?_
    refine go_bput (y := mX2_remember) (pc := 48) dX2_remember_48 fp_X2_20 rfl rfl (by decide) (by decide) (by omega) ?_
    refine go_return (y := mX2_remember) (pc := 51) dX2_remember_51 rfl ?_
    rw [if_pos (by omega)] at K
    exact K _ (eqC_tr (eq_cpC _ _) eq_vput)
set_option maxRecDepth 8000 in
set_option maxHeartbeats 4000000 in
theorem g_forget {σ μ : Mem} {Q : Option Value → Mem → Prop} {X : String → Mem → Prop} (K : Q none (put 20 σ (wr μ 62 2 0))) : mt 276 0 0 0 mX2_forget [.ref 62] Q X (put 20 σ μ) := by
  show go 276 0 0 0 mX2_forget Q X 0 [.ref 62] [] _
  refine go_aload_n (y := mX2_forget) (pc := 0) dX2_forget_0 rfl rfl ?_
  refine go_iconst (y := mX2_forget) (pc := 1) dX2_forget_1 ?_
  refine go_bput (y := mX2_forget) (pc := 2) dX2_forget_2 fp_X2_20 rfl rfl (by decide) (by decide) (by omega) ?_
  refine go_return (y := mX2_forget) (pc := 5) dX2_forget_5 rfl ?_
  exact K
set_option maxRecDepth 8000 in
set_option maxHeartbeats 4000000 in
theorem g_stepBack {σ μ : Mem} {n k : Nat} (hn : n < 8) (h1 : μ 62 1 = n) (h2 : 1 ≤ μ 62 2 ∧ μ 62 2 ≤ 8) (hk : (k : Int) = if 0 < n then (n : Int) - 1 else 7) {Q : Option Value → Mem → Prop} {X : String → Mem → Prop} (K : ∀ τ, eqC τ (vw (64 + 21 * k) μ) → Q none (put 20 τ (wr (wr μ 62 1 k) 62 2 (μ 62 2 - 1)))) : mt 276 3 0 0 mX2_stepBack [.ref 62, .ref 20] Q X (put 20 σ μ) := by
  show go 276 3 0 0 mX2_stepBack Q X 0 [.ref 62, .ref 20] [] _
  have hk8 : k < 8 := by split at hk <;> omega
  obtain ⟨c, ec⟩ : ∃ c, c = 64 + 21 * k := ⟨_, rfl⟩
  have hc : is_ch c := ec ▸ h64 hk8
  rw [← ec] at K
  have o2 : ∀ v : Int, wr μ 62 1 v 62 2 = μ 62 2 := fun v => wr_ni (by decide)
  have eqq : ∀ v w : Int, eqC (cpC (vw c (wr (wr μ 62 1 v) 62 2 w)) σ) (vw c μ) := fun v w => eqC_tr (eq_cpC _ _) (eqC_tr (eq_wo (by omega)) (eq_wo (by omega)))
  refine go_aload_n (y := mX2_stepBack) (pc := 0) dX2_stepBack_0 rfl rfl ?_
  refine go_aload_n (y := mX2_stepBack) (pc := 1) dX2_stepBack_1 rfl rfl ?_
  refine go_bget (y := mX2_stepBack) (pc := 2) dX2_stepBack_2 fl_X2_24 rfl rfl (by decide) (by decide) (fun r2 => ?_)
  refine go_top (b := ((n : Nat) : Int)) (h1) (fun t2 => ?_)
  refine go_if_le (y := mX2_stepBack) (pc := 5) (tgt := 17) dX2_stepBack_5 (by decide) (by omega) (fun h5 => ?_) (fun h5 => ?_)
  · skip
    rw [if_neg (by omega)] at hk
    refine go_bipush (y := mX2_stepBack) (pc := 17) dX2_stepBack_17 (by decide) ?_
    refine go_bput (y := mX2_stepBack) (pc := 19) dX2_stepBack_19 fp_X2_24 rfl rfl (by decide) (by decide) (by omega) ?_
    refine go_aload_n (y := mX2_stepBack) (pc := 22) dX2_stepBack_22 rfl rfl ?_
    refine go_dup (y := mX2_stepBack) (pc := 23) dX2_stepBack_23 rfl ?_
    refine go_bget (y := mX2_stepBack) (pc := 24) dX2_stepBack_24 fl_X2_20 rfl rfl (by decide) (by decide) (fun r24 => ?_)
    refine go_top (b := μ 62 2) (o2 _) (fun t24 => ?_)
    refine go_iconst (y := mX2_stepBack) (pc := 27) dX2_stepBack_27 ?_
    refine go_isub (y := mX2_stepBack) (pc := 28) dX2_stepBack_28 ?_
    refine go_bput (y := mX2_stepBack) (pc := 29) dX2_stepBack_29 fp_X2_20 rfl rfl (by decide) (by decide) (by omega) ?_
    refine go_aload_n (y := mX2_stepBack) (pc := 32) dX2_stepBack_32 rfl rfl ?_
    refine go_aload_n (y := mX2_stepBack) (pc := 33) dX2_stepBack_33 rfl rfl ?_
    refine go_getR (y := mX2_stepBack) (pc := 34) dX2_stepBack_34 fl_X2_11 rfl rfl (by decide) ?_
    refine go_aload_n (y := mX2_stepBack) (pc := 37) dX2_stepBack_37 rfl rfl ?_
    refine go_bget (y := mX2_stepBack) (pc := 38) dX2_stepBack_38 fl_X2_24 rfl rfl (by decide) (by decide) (fun r38 => ?_)
    refine go_top (b := ((k : Nat) : Int)) (((wr_ni (by decide)).trans (wr_s _ _ _ _)).trans (by omega)) (fun t38 => ?_)
    refine go_aaload (y := mX2_stepBack) (pc := 41) (k := k) (q := c) dX2_stepBack_41 rfl (by decide) (by omega) (by omega) (by decide) ((k63 hk8).trans (congrArg some ec.symm)) ?_
    refine go_callV1 (y := mX2_stepBack) (pc := 42) (y' := mX1_copyFrom) (kc2 := 0) (ks2 := 0) dX2_stepBack_42 ml_X2_27 ok_X1_copyFrom (ch_sh h20 0 (by decide)) ⟨_, _, rfl⟩ (ch_z (r := 0) h20 (by decide)) rfl (by decide) (Nat.le_of_ble_eq_true rfl) rfl (c_copyFrom h20 hc (by omega) ?_)
    refine go_return (y := mX2_stepBack) (pc := 45) dX2_stepBack_45 rfl ?_
    rw [show (k : Int) = 7 by omega] at K
    exact K _ (eqq _ _)
  · skip
    rw [if_pos (by omega)] at hk
    refine go_aload_n (y := mX2_stepBack) (pc := 8) dX2_stepBack_8 rfl rfl ?_
    refine go_bget (y := mX2_stepBack) (pc := 9) dX2_stepBack_9 fl_X2_24 rfl rfl (by decide) (by decide) (fun r9 => ?_)
    refine go_top (b := ((n : Nat) : Int)) (h1) (fun t9 => ?_)
    refine go_iconst (y := mX2_stepBack) (pc := 12) dX2_stepBack_12 ?_
    refine go_isub (y := mX2_stepBack) (pc := 13) dX2_stepBack_13 ?_
    refine go_goto (y := mX2_stepBack) (pc := 14) (tgt := 19) dX2_stepBack_14 (by decide) ?_
    refine go_bput (y := mX2_stepBack) (pc := 19) dX2_stepBack_19 fp_X2_24 rfl rfl (by decide) (by decide) (by omega) ?_
    refine go_aload_n (y := mX2_stepBack) (pc := 22) dX2_stepBack_22 rfl rfl ?_
    refine go_dup (y := mX2_stepBack) (pc := 23) dX2_stepBack_23 rfl ?_
    refine go_bget (y := mX2_stepBack) (pc := 24) dX2_stepBack_24 fl_X2_20 rfl rfl (by decide) (by decide) (fun r24 => ?_)
    refine go_top (b := μ 62 2) (o2 _) (fun t24 => ?_)
    refine go_iconst (y := mX2_stepBack) (pc := 27) dX2_stepBack_27 ?_
    refine go_isub (y := mX2_stepBack) (pc := 28) dX2_stepBack_28 ?_
    refine go_bput (y := mX2_stepBack) (pc := 29) dX2_stepBack_29 fp_X2_20 rfl rfl (by decide) (by decide) (by omega) ?_
    refine go_aload_n (y := mX2_stepBack) (pc := 32) dX2_stepBack_32 rfl rfl ?_
    refine go_aload_n (y := mX2_stepBack) (pc := 33) dX2_stepBack_33 rfl rfl ?_
    refine go_getR (y := mX2_stepBack) (pc := 34) dX2_stepBack_34 fl_X2_11 rfl rfl (by decide) ?_
    refine go_aload_n (y := mX2_stepBack) (pc := 37) dX2_stepBack_37 rfl rfl ?_
    refine go_bget (y := mX2_stepBack) (pc := 38) dX2_stepBack_38 fl_X2_24 rfl rfl (by decide) (by decide) (fun r38 => ?_)
    refine go_top (b := ((k : Nat) : Int)) (((wr_ni (by decide)).trans (wr_s _ _ _ _)).trans (by omega)) (fun t38 => ?_)
    refine go_aaload (y := mX2_stepBack) (pc := 41) (k := k) (q := c) dX2_stepBack_41 rfl (by decide) (by omega) (by omega) (by decide) ((k63 hk8).trans (congrArg some ec.symm)) ?_
    refine go_callV1 (y := mX2_stepBack) (pc := 42) (y' := mX1_copyFrom) (kc2 := 0) (ks2 := 0) dX2_stepBack_42 ml_X2_27 ok_X1_copyFrom (ch_sh h20 0 (by decide)) ⟨_, _, rfl⟩ (ch_z (r := 0) h20 (by decide)) rfl (by decide) (Nat.le_of_ble_eq_true rfl) rfl (c_copyFrom h20 hc (by omega) ?_)
    refine go_return (y := mX2_stepBack) (pc := 45) dX2_stepBack_45 rfl ?_
    rw [show (k : Int) = (n : Int) - 1 by omega] at K
    exact K _ (eqq _ _)
