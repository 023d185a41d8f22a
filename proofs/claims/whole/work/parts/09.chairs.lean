set_option maxRecDepth 8000 in
set_option maxHeartbeats 4000000 in
theorem c_isFree {c : Nat} (hc : is_ch c) {σ μ : Mem} {h : Nat} (hh : h < 4) {Q : Option Value → Mem → Prop} {X : String → Mem → Prop} (K : Q (some (.int (iI (bI (σ 16 h = -1))))) (put c σ μ)) : mt 276 0 0 0 mX0_isFree [.ref (c + 15), .int (iI h)] Q X (put c σ μ) := by
  show go 276 0 0 0 mX0_isFree Q X 0 [.ref (c + 15), .int (iI h)] [] _
  refine go_aload_n (y := mX0_isFree) (pc := 0) dX0_isFree_0 rfl rfl ?_
  refine go_getR (y := mX0_isFree) (pc := 1) dX0_isFree_1 fl_X0_9 (ch_sh hc 15 (by decide)) rfl (ch_z hc (by decide)) ?_
  refine go_iload_n (y := mX0_isFree) (pc := 4) dX0_isFree_4 rfl rfl ?_
  refine go_cial (y := mX0_isFree) (pc := 5) (r := 16) (k := h) dX0_isFree_5 hc (by decide) rfl (by decide) (by omega) (by omega) (by decide) (fun r5 => ?_)
  refine go_iconst (y := mX0_isFree) (pc := 6) dX0_isFree_6 ?_
  refine go_icmp_ne (y := mX0_isFree) (pc := 7) (tgt := 14) dX0_isFree_7 (by decide) (by omega) (by omega) (fun h7 => ?_) (fun h7 => ?_)
  · refine go_iconst (y := mX0_isFree) (pc := 14) dX0_isFree_14 ?_
    refine go_zreturn (y := mX0_isFree) (pc := 15) dX0_isFree_15 rfl (by omega) ?_
    refine ret_i K ?_
    unfold bI; split <;> omega
  · refine go_iconst (y := mX0_isFree) (pc := 10) dX0_isFree_10 ?_
    refine go_goto (y := mX0_isFree) (pc := 11) (tgt := 15) dX0_isFree_11 (by decide) ?_
    refine go_zreturn (y := mX0_isFree) (pc := 15) dX0_isFree_15 rfl (by omega) ?_
    refine ret_i K ?_
    unfold bI; split <;> omega
set_option maxRecDepth 8000 in
set_option maxHeartbeats 4000000 in
theorem c_isReb {c : Nat} (hc : is_ch c) {σ μ : Mem} {h : Nat} (hh : h < 4) {Q : Option Value → Mem → Prop} {X : String → Mem → Prop} (K : Q (some (.int (iI (bI (0 < σ 20 h))))) (put c σ μ)) : mt 276 0 0 0 mX0_isRebuttedAt [.ref (c + 15), .int (iI h)] Q X (put c σ μ) := by
  show go 276 0 0 0 mX0_isRebuttedAt Q X 0 [.ref (c + 15), .int (iI h)] [] _
  refine go_aload_n (y := mX0_isRebuttedAt) (pc := 0) dX0_isRebuttedAt_0 rfl rfl ?_
  refine go_getR (y := mX0_isRebuttedAt) (pc := 1) dX0_isRebuttedAt_1 fl_X0_24 (ch_sh hc 15 (by decide)) rfl (ch_z hc (by decide)) ?_
  refine go_iload_n (y := mX0_isRebuttedAt) (pc := 4) dX0_isRebuttedAt_4 rfl rfl ?_
  refine go_cial (y := mX0_isRebuttedAt) (pc := 5) (r := 20) (k := h) dX0_isRebuttedAt_5 hc (by decide) rfl (by decide) (by omega) (by omega) (by decide) (fun r5 => ?_)
  refine go_if_le (y := mX0_isRebuttedAt) (pc := 6) (tgt := 13) dX0_isRebuttedAt_6 (by decide) (by omega) (fun h6 => ?_) (fun h6 => ?_)
  · refine go_iconst (y := mX0_isRebuttedAt) (pc := 13) dX0_isRebuttedAt_13 ?_
    refine go_zreturn (y := mX0_isRebuttedAt) (pc := 14) dX0_isRebuttedAt_14 rfl (by omega) ?_
    refine ret_i K ?_
    unfold bI; split <;> omega
  · refine go_iconst (y := mX0_isRebuttedAt) (pc := 9) dX0_isRebuttedAt_9 ?_
    refine go_goto (y := mX0_isRebuttedAt) (pc := 10) (tgt := 14) dX0_isRebuttedAt_10 (by decide) ?_
    refine go_zreturn (y := mX0_isRebuttedAt) (pc := 14) dX0_isRebuttedAt_14 rfl (by omega) ?_
    refine ret_i K ?_
    unfold bI; split <;> omega
set_option maxRecDepth 8000 in
set_option maxHeartbeats 4000000 in
theorem c_leave {c : Nat} (hc : is_ch c) {σ μ : Mem} {h : Nat} (hh : h < 4) {Q : Option Value → Mem → Prop} {X : String → Mem → Prop} (K : Q none (put c (lve σ h) μ)) : mt 276 0 0 0 mX0_leave [.ref (c + 15), .int (iI h)] Q X (put c σ μ) := by
  show go 276 0 0 0 mX0_leave Q X 0 [.ref (c + 15), .int (iI h)] [] _
  refine go_aload_n (y := mX0_leave) (pc := 0) dX0_leave_0 rfl rfl ?_
  refine go_getR (y := mX0_leave) (pc := 1) dX0_leave_1 fl_X0_9 (ch_sh hc 15 (by decide)) rfl (ch_z hc (by decide)) ?_
  refine go_iload_n (y := mX0_leave) (pc := 4) dX0_leave_4 rfl rfl ?_
  refine go_iconst (y := mX0_leave) (pc := 5) dX0_leave_5 ?_
  refine go_cias (y := mX0_leave) (pc := 6) (r := 16) (k := h) dX0_leave_6 hc (by decide) rfl (by decide) (by omega) (by omega) (by decide) (by omega) ?_
  refine go_aload_n (y := mX0_leave) (pc := 7) dX0_leave_7 rfl rfl ?_
  refine go_getR (y := mX0_leave) (pc := 8) dX0_leave_8 fl_X0_21 (ch_sh hc 15 (by decide)) rfl (ch_z hc (by decide)) ?_
  refine go_iload_n (y := mX0_leave) (pc := 11) dX0_leave_11 rfl rfl ?_
  refine go_iconst (y := mX0_leave) (pc := 12) dX0_leave_12 ?_
  refine go_cias (y := mX0_leave) (pc := 13) (r := 19) (k := h) dX0_leave_13 hc (by decide) rfl (by decide) (by omega) (by omega) (by decide) (by omega) ?_
  refine go_aload_n (y := mX0_leave) (pc := 14) dX0_leave_14 rfl rfl ?_
  refine go_getR (y := mX0_leave) (pc := 15) dX0_leave_15 fl_X0_24 (ch_sh hc 15 (by decide)) rfl (ch_z hc (by decide)) ?_
  refine go_iload_n (y := mX0_leave) (pc := 18) dX0_leave_18 rfl rfl ?_
  refine go_iconst (y := mX0_leave) (pc := 19) dX0_leave_19 ?_
  refine go_cias (y := mX0_leave) (pc := 20) (r := 20) (k := h) dX0_leave_20 hc (by decide) rfl (by decide) (by omega) (by omega) (by decide) (by omega) ?_
  refine go_return (y := mX0_leave) (pc := 21) dX0_leave_21 rfl ?_
  exact K
set_option maxRecDepth 8000 in
set_option maxHeartbeats 4000000 in
theorem c_Xclear {c : Nat} (hc : is_ch c) {σ μ : Mem} {Q : Option Value → Mem → Prop} {X : String → Mem → Prop} (K : Q none (put c (clk σ 4) μ)) : mt 276 1 0 0 mX0_clear [.ref (c + 15)] Q X (put c σ μ) := by
  show go 276 1 0 0 mX0_clear Q X 0 [.ref (c + 15), .null] [] _
  have loop : ∀ (n k : Nat) , k + n = 4 → go 276 1 0 0 mX0_clear Q X 2 [.ref (c + 15), .int (iI k)] [] (put c (clk σ k) μ) := by
    intro n
    induction n with
    | zero =>
      intro k  hk 
      obtain rfl : k = 4 := by omega
      refine go_iload_n (y := mX0_clear) (pc := 2) dX0_clear_2 rfl rfl ?_
      refine go_iconst (y := mX0_clear) (pc := 3) dX0_clear_3 ?_
      refine go_icmp_ge (y := mX0_clear) (pc := 4) (tgt := 18) dX0_clear_4 (by decide) (by omega) (by omega) (fun h4 => ?_) (fun h4 => ?_)
      · refine go_return (y := mX0_clear) (pc := 18) dX0_clear_18 rfl ?_
        exact K
      · exact absurd h4 (by omega)
    | succ n ih =>
      intro k  hk 
      refine go_iload_n (y := mX0_clear) (pc := 2) dX0_clear_2 rfl rfl ?_
      refine go_iconst (y := mX0_clear) (pc := 3) dX0_clear_3 ?_
      refine go_icmp_ge (y := mX0_clear) (pc := 4) (tgt := 18) dX0_clear_4 (by decide) (by omega) (by omega) (fun h4 => ?_) (fun h4 => ?_)
      · exact absurd h4 (by omega)
      refine go_aload_n (y := mX0_clear) (pc := 7) dX0_clear_7 rfl rfl ?_
      refine go_iload_n (y := mX0_clear) (pc := 8) dX0_clear_8 rfl rfl ?_
      refine go_callV1 (y := mX0_clear) (pc := 9) (y' := mX0_leave) (kc2 := 0) (ks2 := 0) dX0_clear_9 ml_X0_27 ok_X0_leave (ch_sh hc 15 (by decide)) ⟨_, _, rfl⟩ (ch_z hc (by decide)) rfl (by decide) (c_leave hc (by omega) ?_)
      refine go_iinc (y := mX0_clear) (pc := 12) dX0_clear_12 rfl (by decide) ?_
      refine go_goto (y := mX0_clear) (pc := 15) (tgt := 2) dX0_clear_15 (by decide) ?_
      rw [clk_s]
      exact ih (k + 1) (by omega)
  refine go_iconst (y := mX0_clear) (pc := 0) dX0_clear_0 ?_
  refine go_istore_n (y := mX0_clear) (pc := 1) dX0_clear_1 rfl (by decide) ?_
  have h := loop 4 0 rfl
  rw [clk_0] at h
  exact h
set_option maxRecDepth 8000 in
set_option maxHeartbeats 4000000 in
theorem c_takenBy {c : Nat} (hc : is_ch c) {σ μ : Mem} {m : Int} (hm : rng m) {Q : Option Value → Mem → Prop} {X : String → Mem → Prop} (K : Q (some (.int (iI (tkn σ m)))) (put c σ μ)) : mt 276 0 0 0 mX0_takenBy [.ref (c + 15), .int (iI m)] Q X (put c σ μ) := by
  show go 276 0 0 0 mX0_takenBy Q X 0 [.ref (c + 15), .int (iI m), .null] [] _
  have loop : ∀ (n k : Nat) , k + n = 4 → (∀ i, i < k → ¬ σ 16 i = m) → go 276 0 0 0 mX0_takenBy Q X 2 [.ref (c + 15), .int (iI m), .int (iI k)] [] (put c σ μ) := by
    intro n
    induction n with
    | zero =>
      intro k  hk hn
      refine go_iload_n (y := mX0_takenBy) (pc := 2) dX0_takenBy_2 rfl rfl ?_
      refine go_iconst (y := mX0_takenBy) (pc := 3) dX0_takenBy_3 ?_
      refine go_icmp_ge (y := mX0_takenBy) (pc := 4) (tgt := 25) dX0_takenBy_4 (by decide) (by omega) (by omega) (fun h4 => ?_) (fun h4 => ?_)
      · refine go_iconst (y := mX0_takenBy) (pc := 25) dX0_takenBy_25 ?_
        refine go_ireturn (y := mX0_takenBy) (pc := 26) dX0_takenBy_26 rfl ?_
        refine ret_i K ?_
        exact (fnd_0 (fun i hi => hn i (by omega))).symm
      · exact absurd h4 (by omega)
    | succ n ih =>
      intro k  hk hn
      refine go_iload_n (y := mX0_takenBy) (pc := 2) dX0_takenBy_2 rfl rfl ?_
      refine go_iconst (y := mX0_takenBy) (pc := 3) dX0_takenBy_3 ?_
      refine go_icmp_ge (y := mX0_takenBy) (pc := 4) (tgt := 25) dX0_takenBy_4 (by decide) (by omega) (by omega) (fun h4 => ?_) (fun h4 => ?_)
      · exact absurd h4 (by omega)
      refine go_aload_n (y := mX0_takenBy) (pc := 7) dX0_takenBy_7 rfl rfl ?_
      refine go_getR (y := mX0_takenBy) (pc := 8) dX0_takenBy_8 fl_X0_9 (ch_sh hc 15 (by decide)) rfl (ch_z hc (by decide)) ?_
      refine go_iload_n (y := mX0_takenBy) (pc := 11) dX0_takenBy_11 rfl rfl ?_
      refine go_cial (y := mX0_takenBy) (pc := 12) (r := 16) (k := k) dX0_takenBy_12 hc (by decide) rfl (by decide) (by omega) (by omega) (by decide) (fun r12 => ?_)
      refine go_iload_n (y := mX0_takenBy) (pc := 13) dX0_takenBy_13 rfl rfl ?_
      refine go_icmp_ne (y := mX0_takenBy) (pc := 14) (tgt := 19) dX0_takenBy_14 (by decide) (by omega) (by omega) (fun h14 => ?_) (fun h14 => ?_)
      · refine go_iinc (y := mX0_takenBy) (pc := 19) dX0_takenBy_19 rfl (by decide) ?_
        refine go_goto (y := mX0_takenBy) (pc := 22) (tgt := 2) dX0_takenBy_22 (by decide) ?_
        exact ih (k + 1) (by omega) (lt_s hn h14)
      · refine go_iload_n (y := mX0_takenBy) (pc := 17) dX0_takenBy_17 rfl rfl ?_
        refine go_ireturn (y := mX0_takenBy) (pc := 18) dX0_takenBy_18 rfl ?_
        refine ret_i K ?_
        exact (fnd_1 (by omega) h14 hn).symm
  refine go_iconst (y := mX0_takenBy) (pc := 0) dX0_takenBy_0 ?_
  refine go_istore_n (y := mX0_takenBy) (pc := 1) dX0_takenBy_1 rfl (by decide) ?_
  exact loop 4 0 rfl lt_0
