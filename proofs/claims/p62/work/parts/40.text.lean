/-! THE TEXT -/
def tx (μ : Mem) (i : Int) : Int := if 0 ≤ i ∧ i < μ 1 1 then ub (μ 2 i.toNat) else 0
def wfT (μ : Mem) : Prop := 0 ≤ μ 1 1 ∧ μ 1 1 ≤ 700 ∧ ∀ k : Nat, k < 700 → -128 ≤ μ 2 k ∧ μ 2 k < 128
def kd (c : Int) : Int := if c = 0 then 0 else if c = 32 ∨ c = 10 then 4 else if 97 ≤ c ∧ c ≤ 122 then 1 else if 48 ≤ c ∧ c ≤ 57 then 2 else 3
def pt1 (μ : Mem) (b : Int) : Mem := if b ≠ 0 ∧ μ 1 1 < 700 then wr (wr μ 2 (μ 1 1).toNat (sb b)) 1 1 (μ 1 1 + 1) else μ
def pbk (w : Int) : Nat → Mem → Mem
  | 0, μ => μ
  | j + 1, μ => pbk w j (pt1 μ (byt w (8 * j) : Nat))
def nbk (w : Int) : Nat → Int
  | 0 => 0
  | j + 1 => (if byt w (8 * j) = 0 then 0 else 1) + nbk w j
theorem nbk_b (w : Int) : ∀ j, 0 ≤ nbk w j ∧ nbk w j ≤ j
  | 0 => by simp [nbk]
  | j + 1 => by
    have h := nbk_b w j
    rw [nbk]
    split <;> omega
theorem wfT_pt1 {μ : Mem} {b : Int} (hb : 0 ≤ b ∧ b < 256) (hT : wfT μ) : wfT (pt1 μ b) := by
  obtain ⟨t0, t7, tb⟩ := hT
  unfold pt1
  by_cases g : b ≠ 0 ∧ μ 1 1 < 700
  · rw [if_pos g]
    refine ⟨by rw [wr_s]; omega, by rw [wr_s]; omega, fun k hk => ?_⟩
    rw [wr_na (by decide)]
    by_cases e : k = (μ 1 1).toNat
    · rw [e, wr_s]
      exact sgb_b hb
    · rw [wr_ni e]
      exact tb k hk
  · rw [if_neg g]
    exact ⟨t0, t7, tb⟩
set_option maxRecDepth 8000 in
set_option maxHeartbeats 4000000 in
theorem t_at {μ : Mem} {i : Int} (hi : rng i) (hT : wfT μ) {Q : Option Value → Mem → Prop} {X : String → Mem → Prop} (K : ∀ v, v = tx μ i → 0 ≤ v ∧ v < 256 → Q (some (.int (iI v))) μ) : mt 276 0 0 0 mX8_at [.ref 1, .int (iI i)] Q X μ := by
  show go 276 0 0 0 mX8_at Q X 0 [.ref 1, .int (iI i)] [] _
  obtain ⟨t0, t7, tb⟩ := hT
  refine go_iload_n (y := mX8_at) (pc := 0) dX8_at_0 rfl rfl ?_
  refine go_if_lt (y := mX8_at) (pc := 1) (tgt := 25) dX8_at_1 (by decide) (by omega) (fun h1 => ?_) (fun h1 => ?_)
  · skip
    refine go_iconst (y := mX8_at) (pc := 25) dX8_at_25 ?_
    refine go_ireturn (y := mX8_at) (pc := 26) dX8_at_26 rfl ?_
    exact K 0 (by unfold tx; rw [if_neg (by omega)]) (by omega)
  · skip
    refine go_iload_n (y := mX8_at) (pc := 4) dX8_at_4 rfl rfl ?_
    refine go_aload_n (y := mX8_at) (pc := 5) dX8_at_5 rfl rfl ?_
    refine go_getI (y := mX8_at) (pc := 6) dX8_at_6 fl_X8_29 rfl rfl (by decide) (fun r6 => ?_)
    refine go_icmp_ge (y := mX8_at) (pc := 9) (tgt := 25) dX8_at_9 (by decide) (by omega) (by omega) (fun h9 => ?_) (fun h9 => ?_)
    · skip
      refine go_iconst (y := mX8_at) (pc := 25) dX8_at_25 ?_
      refine go_ireturn (y := mX8_at) (pc := 26) dX8_at_26 rfl ?_
      exact K 0 (by unfold tx; rw [if_neg (by omega)]) (by omega)
    · skip
      refine go_aload_n (y := mX8_at) (pc := 12) dX8_at_12 rfl rfl ?_
      refine go_getR (y := mX8_at) (pc := 13) dX8_at_13 fl_X8_9 rfl rfl (by decide) ?_
      refine go_iload_n (y := mX8_at) (pc := 16) dX8_at_16 rfl rfl ?_
      refine go_baload (y := mX8_at) (pc := 17) (k := i.toNat) dX8_at_17 rfl (by decide) (by omega) (by omega) (by decide) (fun r17 => ?_)
      refine go_sipush (y := mX8_at) (pc := 18) dX8_at_18 (by decide) ?_
      refine go_iand (y := mX8_at) (pc := 21) dX8_at_21 (v := ub (μ 2 i.toNat)) (and255 (tb _ (by omega))) ?_
      refine go_goto (y := mX8_at) (pc := 22) (tgt := 26) dX8_at_22 (by decide) ?_
      refine go_ireturn (y := mX8_at) (pc := 26) dX8_at_26 rfl ?_
      have hb := ub_b (tb i.toNat (by omega))
      exact K _ (by unfold tx; rw [if_pos (by omega)]) (by omega)
set_option maxRecDepth 8000 in
set_option maxHeartbeats 4000000 in
theorem t_kindOf {μ : Mem} {c : Int} (hc : rng c) {Q : Option Value → Mem → Prop} {X : String → Mem → Prop} (K : ∀ v, v = kd c → 0 ≤ v ∧ v ≤ 4 → Q (some (.int (iI v))) μ) : mt 276 0 0 0 mX9_kindOf [.int (iI c)] Q X μ := by
  show go 276 0 0 0 mX9_kindOf Q X 0 [.int (iI c)] [] _
  unfold kd at K
  have J18 : c ≠ 0 → (c = 32 ∨ c = 10) → go 276 0 0 0 mX9_kindOf Q X 18 [.int (iI c)] [] μ := by
    intro h1 h2
    refine go_iconst (y := mX9_kindOf) (pc := 18) dX9_kindOf_18 ?_
    refine go_ireturn (y := mX9_kindOf) (pc := 19) dX9_kindOf_19 rfl ?_
    exact K 4 (by rw [if_neg h1, if_pos h2]) (by decide)
  have J34 : c ≠ 0 → ¬ (c = 32 ∨ c = 10) → ¬ (97 ≤ c ∧ c ≤ 122) → go 276 0 0 0 mX9_kindOf Q X 34 [.int (iI c)] [] μ := by
    intro h1 h2 h3
    refine go_iload_n (y := mX9_kindOf) (pc := 34) dX9_kindOf_34 rfl rfl ?_
    refine go_bipush (y := mX9_kindOf) (pc := 35) dX9_kindOf_35 (by decide) ?_
    refine go_icmp_lt (y := mX9_kindOf) (pc := 37) (tgt := 50) dX9_kindOf_37 (by decide) (by omega) (by omega) (fun h37 => ?_) (fun h37 => ?_)
    · skip
      refine go_iconst (y := mX9_kindOf) (pc := 50) dX9_kindOf_50 ?_
      refine go_ireturn (y := mX9_kindOf) (pc := 51) dX9_kindOf_51 rfl ?_
      exact K 3 (by rw [if_neg h1, if_neg h2, if_neg h3, if_neg (by omega)]) (by decide)
    · skip
      refine go_iload_n (y := mX9_kindOf) (pc := 40) dX9_kindOf_40 rfl rfl ?_
      refine go_bipush (y := mX9_kindOf) (pc := 41) dX9_kindOf_41 (by decide) ?_
      refine go_icmp_gt (y := mX9_kindOf) (pc := 43) (tgt := 50) dX9_kindOf_43 (by decide) (by omega) (by omega) (fun h43 => ?_) (fun h43 => ?_)
      · skip
        refine go_iconst (y := mX9_kindOf) (pc := 50) dX9_kindOf_50 ?_
        refine go_ireturn (y := mX9_kindOf) (pc := 51) dX9_kindOf_51 rfl ?_
        exact K 3 (by rw [if_neg h1, if_neg h2, if_neg h3, if_neg (by omega)]) (by decide)
      · skip
        refine go_iconst (y := mX9_kindOf) (pc := 46) dX9_kindOf_46 ?_
        refine go_goto (y := mX9_kindOf) (pc := 47) (tgt := 51) dX9_kindOf_47 (by decide) ?_
        refine go_ireturn (y := mX9_kindOf) (pc := 51) dX9_kindOf_51 rfl ?_
        exact K 2 (by rw [if_neg h1, if_neg h2, if_neg h3, if_pos (by omega)]) (by decide)
  refine go_iload_n (y := mX9_kindOf) (pc := 0) dX9_kindOf_0 rfl rfl ?_
  refine go_if_ne (y := mX9_kindOf) (pc := 1) (tgt := 6) dX9_kindOf_1 (by decide) (by omega) (fun h1 => ?_) (fun h1 => ?_)
  · skip
    refine go_iload_n (y := mX9_kindOf) (pc := 6) dX9_kindOf_6 rfl rfl ?_
    refine go_bipush (y := mX9_kindOf) (pc := 7) dX9_kindOf_7 (by decide) ?_
    refine go_icmp_eq (y := mX9_kindOf) (pc := 9) (tgt := 18) dX9_kindOf_9 (by decide) (by omega) (by omega) (fun h9 => ?_) (fun h9 => ?_)
    · skip
      exact J18 h1 (by omega)
    · skip
      refine go_iload_n (y := mX9_kindOf) (pc := 12) dX9_kindOf_12 rfl rfl ?_
      refine go_bipush (y := mX9_kindOf) (pc := 13) dX9_kindOf_13 (by decide) ?_
      refine go_icmp_ne (y := mX9_kindOf) (pc := 15) (tgt := 20) dX9_kindOf_15 (by decide) (by omega) (by omega) (fun h15 => ?_) (fun h15 => ?_)
      · skip
        refine go_iload_n (y := mX9_kindOf) (pc := 20) dX9_kindOf_20 rfl rfl ?_
        refine go_bipush (y := mX9_kindOf) (pc := 21) dX9_kindOf_21 (by decide) ?_
        refine go_icmp_lt (y := mX9_kindOf) (pc := 23) (tgt := 34) dX9_kindOf_23 (by decide) (by omega) (by omega) (fun h23 => ?_) (fun h23 => ?_)
        · skip
          exact J34 h1 (by omega) (by omega)
        · skip
          refine go_iload_n (y := mX9_kindOf) (pc := 26) dX9_kindOf_26 rfl rfl ?_
          refine go_bipush (y := mX9_kindOf) (pc := 27) dX9_kindOf_27 (by decide) ?_
          refine go_icmp_gt (y := mX9_kindOf) (pc := 29) (tgt := 34) dX9_kindOf_29 (by decide) (by omega) (by omega) (fun h29 => ?_) (fun h29 => ?_)
          · skip
            exact J34 h1 (by omega) (by omega)
          · skip
            refine go_iconst (y := mX9_kindOf) (pc := 32) dX9_kindOf_32 ?_
            refine go_ireturn (y := mX9_kindOf) (pc := 33) dX9_kindOf_33 rfl ?_
            exact K 1 (by rw [if_neg h1, if_neg (by omega), if_pos (by omega)]) (by decide)
      · skip
        exact J18 h1 (by omega)
  · skip
    refine go_iconst (y := mX9_kindOf) (pc := 4) dX9_kindOf_4 ?_
    refine go_ireturn (y := mX9_kindOf) (pc := 5) dX9_kindOf_5 rfl ?_
    exact K 0 (by rw [if_pos h1]) (by decide)
set_option maxRecDepth 8000 in
set_option maxHeartbeats 4000000 in
theorem t_put {μ : Mem} {b : Int} (hb : 0 ≤ b ∧ b < 256) (hT : wfT μ) {Q : Option Value → Mem → Prop} {X : String → Mem → Prop} (K : Q none (pt1 μ b)) : mt 276 0 0 0 mX8_put [.ref 1, .int (iI b)] Q X μ := by
  show go 276 0 0 0 mX8_put Q X 0 [.ref 1, .int (iI b)] [] _
  obtain ⟨t0, t7, tb⟩ := hT
  have hs := sgb_b hb
  unfold pt1 at K
  refine go_iload_n (y := mX8_put) (pc := 0) dX8_put_0 rfl rfl ?_
  refine go_if_eq (y := mX8_put) (pc := 1) (tgt := 35) dX8_put_1 (by decide) (by omega) (fun h1 => ?_) (fun h1 => ?_)
  · skip
    rw [if_neg (by omega)] at K
    refine go_return (y := mX8_put) (pc := 35) dX8_put_35 rfl ?_
    exact K
  · skip
    refine go_aload_n (y := mX8_put) (pc := 4) dX8_put_4 rfl rfl ?_
    refine go_getI (y := mX8_put) (pc := 5) dX8_put_5 fl_X8_29 rfl rfl (by decide) (fun r5 => ?_)
    refine go_sipush (y := mX8_put) (pc := 8) dX8_put_8 (by decide) ?_
    refine go_icmp_ge (y := mX8_put) (pc := 11) (tgt := 35) dX8_put_11 (by decide) (by omega) (by omega) (fun h11 => ?_) (fun h11 => ?_)
    · skip
      rw [if_neg (by omega)] at K
      refine go_return (y := mX8_put) (pc := 35) dX8_put_35 rfl ?_
      exact K
    · skip
      rw [if_pos (by omega)] at K
      refine go_aload_n (y := mX8_put) (pc := 14) dX8_put_14 rfl rfl ?_
      refine go_getR (y := mX8_put) (pc := 15) dX8_put_15 fl_X8_9 rfl rfl (by decide) ?_
      refine go_aload_n (y := mX8_put) (pc := 18) dX8_put_18 rfl rfl ?_
      refine go_getI (y := mX8_put) (pc := 19) dX8_put_19 fl_X8_29 rfl rfl (by decide) (fun r19 => ?_)
      refine go_iload_n (y := mX8_put) (pc := 22) dX8_put_22 rfl rfl ?_
      refine go_i2b (y := mX8_put) (pc := 23) dX8_put_23 (v := sb b) (i2b_s hb) ?_
      refine go_bastore (y := mX8_put) (pc := 24) (k := ((μ 1 1).toNat)) dX8_put_24 rfl (by decide) (by omega) (by omega) (by decide) (by omega) ?_
      refine go_aload_n (y := mX8_put) (pc := 25) dX8_put_25 rfl rfl ?_
      refine go_dup (y := mX8_put) (pc := 26) dX8_put_26 rfl ?_
      refine go_getI (y := mX8_put) (pc := 27) dX8_put_27 fl_X8_29 rfl rfl (by decide) (fun r27 => ?_)
      refine go_top (b := μ 1 1) (wr_na (by decide)) (fun t27 => ?_)
      refine go_iconst (y := mX8_put) (pc := 30) dX8_put_30 ?_
      refine go_iadd (y := mX8_put) (pc := 31) dX8_put_31 ?_
      refine go_putI (y := mX8_put) (pc := 32) dX8_put_32 fp_X8_29 rfl rfl (by decide) (by omega) ?_
      refine go_return (y := mX8_put) (pc := 35) dX8_put_35 rfl ?_
      exact K
set_option maxRecDepth 8000 in
set_option maxHeartbeats 4000000 in
theorem t_bytesIn {μ : Mem} {w : Int} {Q : Option Value → Mem → Prop} {X : String → Mem → Prop} (K : Q (some (.int (iI (nbk w 4)))) μ) : mt 276 0 0 0 mX8_bytesIn [.int (iI w)] Q X μ := by
  show go 276 0 0 0 mX8_bytesIn Q X 0 [.int (iI w), .null, .null] [] _
  have loop : ∀ (j : Nat) (c x : Int), j ≤ 4 → x = 8 * (j : Int) - 8 → Q (some (.int (iI (c + nbk w j)))) μ → go 276 0 0 0 mX8_bytesIn Q X 5 [.int (iI w), .int (iI c), .int (iI x)] [] μ := by
    intro j
    induction j with
    | zero =>
      intro c x hj hx hQ
      refine go_iload_n (y := mX8_bytesIn) (pc := 5) dX8_bytesIn_5 rfl rfl ?_
      refine go_if_lt (y := mX8_bytesIn) (pc := 6) (tgt := 28) dX8_bytesIn_6 (by decide) (by omega) (fun h6 => ?_) (fun h6 => ?_)
      · skip
        refine go_iload_n (y := mX8_bytesIn) (pc := 28) dX8_bytesIn_28 rfl rfl ?_
        refine go_ireturn (y := mX8_bytesIn) (pc := 29) dX8_bytesIn_29 rfl ?_
        rw [nbk, Int.add_zero] at hQ
        exact hQ
      · skip
        exact absurd h6 (by omega)
    | succ j ih =>
      intro c x hj hx hQ
      obtain ⟨v, hv1, hv2⟩ := byt_u w (8 * j) (by omega)
      have bb := byt_b w (8 * j)
      refine go_iload_n (y := mX8_bytesIn) (pc := 5) dX8_bytesIn_5 rfl rfl ?_
      refine go_if_lt (y := mX8_bytesIn) (pc := 6) (tgt := 28) dX8_bytesIn_6 (by decide) (by omega) (fun h6 => ?_) (fun h6 => ?_)
      · skip
        exact absurd h6 (by omega)
      · skip
        refine go_loc (i := 2) (show x = ((8 * j : Nat) : Int) by omega) rfl ?_
        refine go_iload_n (y := mX8_bytesIn) (pc := 9) dX8_bytesIn_9 rfl rfl ?_
        refine go_iload_n (y := mX8_bytesIn) (pc := 10) dX8_bytesIn_10 rfl rfl ?_
        refine go_iushr (y := mX8_bytesIn) (pc := 11) dX8_bytesIn_11 (v := v) hv1 ?_
        refine go_sipush (y := mX8_bytesIn) (pc := 12) dX8_bytesIn_12 (by decide) ?_
        refine go_iand (y := mX8_bytesIn) (pc := 15) dX8_bytesIn_15 (v := ((byt w (8 * j) : Nat) : Int)) hv2 ?_
        refine go_if_eq (y := mX8_bytesIn) (pc := 16) (tgt := 22) dX8_bytesIn_16 (by decide) (by omega) (fun h16 => ?_) (fun h16 => ?_)
        · skip
          refine go_iinc (y := mX8_bytesIn) (pc := 22) dX8_bytesIn_22 rfl (by decide) ?_
          refine go_goto (y := mX8_bytesIn) (pc := 25) (tgt := 5) dX8_bytesIn_25 (by decide) ?_
          refine ih c _ (by omega) (by omega) ?_
          rw [nbk, if_pos (by omega), Int.zero_add] at hQ
          exact hQ
        · skip
          refine go_iinc (y := mX8_bytesIn) (pc := 19) dX8_bytesIn_19 rfl (by decide) ?_
          refine go_iinc (y := mX8_bytesIn) (pc := 22) dX8_bytesIn_22 rfl (by decide) ?_
          refine go_goto (y := mX8_bytesIn) (pc := 25) (tgt := 5) dX8_bytesIn_25 (by decide) ?_
          refine ih (c + 1) _ (by omega) (by omega) ?_
          rw [nbk, if_neg (by omega), ← Int.add_assoc] at hQ
          exact hQ
  refine go_iconst (y := mX8_bytesIn) (pc := 0) dX8_bytesIn_0 ?_
  refine go_istore_n (y := mX8_bytesIn) (pc := 1) dX8_bytesIn_1 rfl (by decide) ?_
  refine go_bipush (y := mX8_bytesIn) (pc := 2) dX8_bytesIn_2 (by decide) ?_
  refine go_istore_n (y := mX8_bytesIn) (pc := 4) dX8_bytesIn_4 rfl (by decide) ?_
  exact loop 4 0 24 (by decide) (by decide) (by rw [Int.zero_add]; exact K)
set_option maxRecDepth 8000 in
set_option maxHeartbeats 4000000 in
theorem t_putBytesOf {μ : Mem} {w : Int} (hT : wfT μ) {Q : Option Value → Mem → Prop} {X : String → Mem → Prop} (K : Q none (pbk w 4 μ)) : mt 276 1 0 0 mX8_putBytesOf [.ref 1, .int (iI w)] Q X μ := by
  show go 276 1 0 0 mX8_putBytesOf Q X 0 [.ref 1, .int (iI w), .null] [] _
  have loop : ∀ (j : Nat) (x : Int) (τ : Mem), j ≤ 4 → x = 8 * (j : Int) - 8 → wfT τ → Q none (pbk w j τ) → go 276 1 0 0 mX8_putBytesOf Q X 3 [.ref 1, .int (iI w), .int (iI x)] [] τ := by
    intro j
    induction j with
    | zero =>
      intro x τ hj hx hT hQ
      refine go_iload_n (y := mX8_putBytesOf) (pc := 3) dX8_putBytesOf_3 rfl rfl ?_
      refine go_if_lt (y := mX8_putBytesOf) (pc := 4) (tgt := 24) dX8_putBytesOf_4 (by decide) (by omega) (fun h4 => ?_) (fun h4 => ?_)
      · skip
        refine go_return (y := mX8_putBytesOf) (pc := 24) dX8_putBytesOf_24 rfl ?_
        exact hQ
      · skip
        exact absurd h4 (by omega)
    | succ j ih =>
      intro x τ hj hx hT hQ
      obtain ⟨v, hv1, hv2⟩ := byt_u w (8 * j) (by omega)
      have bb := byt_b w (8 * j)
      refine go_iload_n (y := mX8_putBytesOf) (pc := 3) dX8_putBytesOf_3 rfl rfl ?_
      refine go_if_lt (y := mX8_putBytesOf) (pc := 4) (tgt := 24) dX8_putBytesOf_4 (by decide) (by omega) (fun h4 => ?_) (fun h4 => ?_)
      · skip
        exact absurd h4 (by omega)
      · skip
        refine go_loc (i := 2) (show x = ((8 * j : Nat) : Int) by omega) rfl ?_
        refine go_aload_n (y := mX8_putBytesOf) (pc := 7) dX8_putBytesOf_7 rfl rfl ?_
        refine go_iload_n (y := mX8_putBytesOf) (pc := 8) dX8_putBytesOf_8 rfl rfl ?_
        refine go_iload_n (y := mX8_putBytesOf) (pc := 9) dX8_putBytesOf_9 rfl rfl ?_
        refine go_iushr (y := mX8_putBytesOf) (pc := 10) dX8_putBytesOf_10 (v := v) hv1 ?_
        refine go_sipush (y := mX8_putBytesOf) (pc := 11) dX8_putBytesOf_11 (by decide) ?_
        refine go_iand (y := mX8_putBytesOf) (pc := 14) dX8_putBytesOf_14 (v := ((byt w (8 * j) : Nat) : Int)) hv2 ?_
        refine go_callV1 (y := mX8_putBytesOf) (pc := 15) (y' := mX8_put) (kc2 := 0) (ks2 := 0) dX8_putBytesOf_15 ml_X8_15 ok_X8_put (show shp 1 = _ from rfl) ⟨_, _, rfl⟩ (by decide) rfl (by decide) (Nat.le_of_ble_eq_true rfl) rfl (t_put (by omega) hT ?_)
        refine go_iinc (y := mX8_putBytesOf) (pc := 18) dX8_putBytesOf_18 rfl (by decide) ?_
        refine go_goto (y := mX8_putBytesOf) (pc := 21) (tgt := 3) dX8_putBytesOf_21 (by decide) ?_
        exact ih _ _ (by omega) (by omega) (wfT_pt1 (by omega) hT) hQ
  refine go_bipush (y := mX8_putBytesOf) (pc := 0) dX8_putBytesOf_0 (by decide) ?_
  refine go_istore_n (y := mX8_putBytesOf) (pc := 2) dX8_putBytesOf_2 rfl (by decide) ?_
  exact loop 4 24 μ (by decide) (by decide) hT K
