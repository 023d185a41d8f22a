set_option maxRecDepth 8000 in
set_option maxHeartbeats 4000000 in
theorem c_isFree {c : Nat} (hc : is_ch c) {σ μ : Mem} {h : Nat} (hh : h < 4) {Q : Option Value → Mem → Prop} {X : String → Mem → Prop} (K : ∀ v, v = bI (σ 16 h = -1) → v = 0 ∨ v = 1 → Q (some (.int (iI v))) (put c σ μ)) : mt 276 0 0 0 mX0_isFree [.ref (c + 15), .int (iI (h : Nat))] Q X (put c σ μ) := by
  show go 276 0 0 0 mX0_isFree Q X 0 [.ref (c + 15), .int (iI (h : Nat))] [] _
  refine go_aload_n (y := mX0_isFree) (pc := 0) dX0_isFree_0 rfl rfl ?_
  refine go_getR (y := mX0_isFree) (pc := 1) dX0_isFree_1 fl_X0_9 (ch_sh hc 15 (by decide)) rfl (ch_z (r := 15) hc (by decide)) ?_
  refine go_iload_n (y := mX0_isFree) (pc := 4) dX0_isFree_4 rfl rfl ?_
  refine go_cial (y := mX0_isFree) (pc := 5) (r := 16) (k := h) dX0_isFree_5 hc (by decide) rfl (by decide) rfl (by omega) (by decide) (fun r5 => ?_)
  refine go_iconst (y := mX0_isFree) (pc := 6) dX0_isFree_6 ?_
  refine go_icmp_ne (y := mX0_isFree) (pc := 7) (tgt := 14) dX0_isFree_7 (by decide) (by omega) (by omega) (fun h7 => ?_) (fun h7 => ?_)
  · skip
    refine go_iconst (y := mX0_isFree) (pc := 14) dX0_isFree_14 ?_
    refine go_zreturn (y := mX0_isFree) (pc := 15) dX0_isFree_15 rfl (by omega) ?_
    exact K _ (bI_f (by omega)).symm (by omega)
  · skip
    refine go_iconst (y := mX0_isFree) (pc := 10) dX0_isFree_10 ?_
    refine go_goto (y := mX0_isFree) (pc := 11) (tgt := 15) dX0_isFree_11 (by decide) ?_
    refine go_zreturn (y := mX0_isFree) (pc := 15) dX0_isFree_15 rfl (by omega) ?_
    exact K _ (bI_t (by omega)).symm (by omega)
set_option maxRecDepth 8000 in
set_option maxHeartbeats 4000000 in
theorem c_isReb {c : Nat} (hc : is_ch c) {σ μ : Mem} {h : Nat} (hh : h < 4) {Q : Option Value → Mem → Prop} {X : String → Mem → Prop} (K : ∀ v, v = bI (0 < σ 20 h) → v = 0 ∨ v = 1 → Q (some (.int (iI v))) (put c σ μ)) : mt 276 0 0 0 mX0_isRebuttedAt [.ref (c + 15), .int (iI (h : Nat))] Q X (put c σ μ) := by
  show go 276 0 0 0 mX0_isRebuttedAt Q X 0 [.ref (c + 15), .int (iI (h : Nat))] [] _
  refine go_aload_n (y := mX0_isRebuttedAt) (pc := 0) dX0_isRebuttedAt_0 rfl rfl ?_
  refine go_getR (y := mX0_isRebuttedAt) (pc := 1) dX0_isRebuttedAt_1 fl_X0_24 (ch_sh hc 15 (by decide)) rfl (ch_z (r := 15) hc (by decide)) ?_
  refine go_iload_n (y := mX0_isRebuttedAt) (pc := 4) dX0_isRebuttedAt_4 rfl rfl ?_
  refine go_cial (y := mX0_isRebuttedAt) (pc := 5) (r := 20) (k := h) dX0_isRebuttedAt_5 hc (by decide) rfl (by decide) rfl (by omega) (by decide) (fun r5 => ?_)
  refine go_if_le (y := mX0_isRebuttedAt) (pc := 6) (tgt := 13) dX0_isRebuttedAt_6 (by decide) (by omega) (fun h6 => ?_) (fun h6 => ?_)
  · skip
    refine go_iconst (y := mX0_isRebuttedAt) (pc := 13) dX0_isRebuttedAt_13 ?_
    refine go_zreturn (y := mX0_isRebuttedAt) (pc := 14) dX0_isRebuttedAt_14 rfl (by omega) ?_
    exact K _ (bI_f (by omega)).symm (by omega)
  · skip
    refine go_iconst (y := mX0_isRebuttedAt) (pc := 9) dX0_isRebuttedAt_9 ?_
    refine go_goto (y := mX0_isRebuttedAt) (pc := 10) (tgt := 14) dX0_isRebuttedAt_10 (by decide) ?_
    refine go_zreturn (y := mX0_isRebuttedAt) (pc := 14) dX0_isRebuttedAt_14 rfl (by omega) ?_
    exact K _ (bI_t (by omega)).symm (by omega)
set_option maxRecDepth 8000 in
set_option maxHeartbeats 4000000 in
theorem c_leave {c : Nat} (hc : is_ch c) {σ μ : Mem} {h : Nat} (hh : h < 4) {Q : Option Value → Mem → Prop} {X : String → Mem → Prop} (K : Q none (put c (lve σ h) μ)) : mt 276 0 0 0 mX0_leave [.ref (c + 15), .int (iI (h : Nat))] Q X (put c σ μ) := by
  show go 276 0 0 0 mX0_leave Q X 0 [.ref (c + 15), .int (iI (h : Nat))] [] _
  refine go_aload_n (y := mX0_leave) (pc := 0) dX0_leave_0 rfl rfl ?_
  refine go_getR (y := mX0_leave) (pc := 1) dX0_leave_1 fl_X0_9 (ch_sh hc 15 (by decide)) rfl (ch_z (r := 15) hc (by decide)) ?_
  refine go_iload_n (y := mX0_leave) (pc := 4) dX0_leave_4 rfl rfl ?_
  refine go_iconst (y := mX0_leave) (pc := 5) dX0_leave_5 ?_
  refine go_cias (y := mX0_leave) (pc := 6) (r := 16) (k := h) dX0_leave_6 hc (by decide) rfl (by decide) rfl (by omega) (by decide) (by omega) ?_
  refine go_aload_n (y := mX0_leave) (pc := 7) dX0_leave_7 rfl rfl ?_
  refine go_getR (y := mX0_leave) (pc := 8) dX0_leave_8 fl_X0_21 (ch_sh hc 15 (by decide)) rfl (ch_z (r := 15) hc (by decide)) ?_
  refine go_iload_n (y := mX0_leave) (pc := 11) dX0_leave_11 rfl rfl ?_
  refine go_iconst (y := mX0_leave) (pc := 12) dX0_leave_12 ?_
  refine go_cias (y := mX0_leave) (pc := 13) (r := 19) (k := h) dX0_leave_13 hc (by decide) rfl (by decide) rfl (by omega) (by decide) (by omega) ?_
  refine go_aload_n (y := mX0_leave) (pc := 14) dX0_leave_14 rfl rfl ?_
  refine go_getR (y := mX0_leave) (pc := 15) dX0_leave_15 fl_X0_24 (ch_sh hc 15 (by decide)) rfl (ch_z (r := 15) hc (by decide)) ?_
  refine go_iload_n (y := mX0_leave) (pc := 18) dX0_leave_18 rfl rfl ?_
  refine go_iconst (y := mX0_leave) (pc := 19) dX0_leave_19 ?_
  refine go_cias (y := mX0_leave) (pc := 20) (r := 20) (k := h) dX0_leave_20 hc (by decide) rfl (by decide) rfl (by omega) (by decide) (by omega) ?_
  refine go_return (y := mX0_leave) (pc := 21) dX0_leave_21 rfl ?_
  exact K
set_option maxRecDepth 8000 in
set_option maxHeartbeats 4000000 in
theorem c_Xclear {c : Nat} (hc : is_ch c) {σ μ : Mem} {Q : Option Value → Mem → Prop} {X : String → Mem → Prop} (K : Q none (put c (clk σ 4) μ)) : mt 276 1 0 0 mX0_clear [.ref (c + 15)] Q X (put c σ μ) := by
  show go 276 1 0 0 mX0_clear Q X 0 [.ref (c + 15), .null] [] _
  have loop : ∀ (n k : Nat), k + n = 4 → go 276 1 0 0 mX0_clear Q X 2 [.ref (c + 15), .int (iI (k : Nat))] [] (put c (clk σ k) μ) := by
    intro n
    induction n using Nat.strongRecOn with
    | _ n ih =>
      intro k hk
      refine go_iload_n (y := mX0_clear) (pc := 2) dX0_clear_2 rfl rfl ?_
      refine go_iconst (y := mX0_clear) (pc := 3) dX0_clear_3 ?_
      refine go_icmp_ge (y := mX0_clear) (pc := 4) (tgt := 18) dX0_clear_4 (by decide) (by omega) (by omega) (fun h4 => ?_) (fun h4 => ?_)
      · skip
        refine go_return (y := mX0_clear) (pc := 18) dX0_clear_18 rfl ?_
        obtain rfl : k = 4 := by omega
        exact K
      · skip
        refine go_aload_n (y := mX0_clear) (pc := 7) dX0_clear_7 rfl rfl ?_
        refine go_iload_n (y := mX0_clear) (pc := 8) dX0_clear_8 rfl rfl ?_
        refine go_callV1 (y := mX0_clear) (pc := 9) (y' := mX0_leave) (kc2 := 0) (ks2 := 0) dX0_clear_9 ml_X0_27 ok_X0_leave (ch_sh hc 15 (by decide)) ⟨_, _, rfl⟩ (ch_z (r := 15) hc (by decide)) rfl (by decide) (Nat.le_of_ble_eq_true rfl) rfl (c_leave hc (h := k) (by omega) ?_)
        refine go_iinc (y := mX0_clear) (pc := 12) dX0_clear_12 rfl (by decide) ?_
        refine go_goto (y := mX0_clear) (pc := 15) (tgt := 2) dX0_clear_15 (by decide) ?_
        rw [clk_s]
        exact ih (n - 1) (by omega) (k + 1) (by omega)
  refine go_iconst (y := mX0_clear) (pc := 0) dX0_clear_0 ?_
  refine go_istore_n (y := mX0_clear) (pc := 1) dX0_clear_1 rfl (by decide) ?_
  have h := loop 4 0 rfl
  rw [clk_0] at h
  exact h
set_option maxRecDepth 8000 in
set_option maxHeartbeats 4000000 in
theorem c_takenBy {c : Nat} (hc : is_ch c) {σ μ : Mem} {m : Int} (hm : rng m) {Q : Option Value → Mem → Prop} {X : String → Mem → Prop} (K : ∀ v, v = tkn σ m → -1 ≤ v ∧ v < 4 → Q (some (.int (iI v))) (put c σ μ)) : mt 276 0 0 0 mX0_takenBy [.ref (c + 15), .int (iI m)] Q X (put c σ μ) := by
  show go 276 0 0 0 mX0_takenBy Q X 0 [.ref (c + 15), .int (iI m), .null] [] _
  have loop : ∀ (n k : Nat), k + n = 4 → (∀ i, i < k → ¬ σ 16 i = m) → go 276 0 0 0 mX0_takenBy Q X 2 [.ref (c + 15), .int (iI m), .int (iI (k : Nat))] [] (put c σ μ) := by
    intro n
    induction n using Nat.strongRecOn with
    | _ n ih =>
      intro k hk hn
      refine go_iload_n (y := mX0_takenBy) (pc := 2) dX0_takenBy_2 rfl rfl ?_
      refine go_iconst (y := mX0_takenBy) (pc := 3) dX0_takenBy_3 ?_
      refine go_icmp_ge (y := mX0_takenBy) (pc := 4) (tgt := 25) dX0_takenBy_4 (by decide) (by omega) (by omega) (fun h4 => ?_) (fun h4 => ?_)
      · skip
        refine go_iconst (y := mX0_takenBy) (pc := 25) dX0_takenBy_25 ?_
        refine go_ireturn (y := mX0_takenBy) (pc := 26) dX0_takenBy_26 rfl ?_
        exact K _ (fnd_0 (fun i hi => hn i (by omega))).symm (by omega)
      · skip
        refine go_aload_n (y := mX0_takenBy) (pc := 7) dX0_takenBy_7 rfl rfl ?_
        refine go_getR (y := mX0_takenBy) (pc := 8) dX0_takenBy_8 fl_X0_9 (ch_sh hc 15 (by decide)) rfl (ch_z (r := 15) hc (by decide)) ?_
        refine go_iload_n (y := mX0_takenBy) (pc := 11) dX0_takenBy_11 rfl rfl ?_
        refine go_cial (y := mX0_takenBy) (pc := 12) (r := 16) (k := k) dX0_takenBy_12 hc (by decide) rfl (by decide) rfl (by omega) (by decide) (fun r12 => ?_)
        refine go_iload_n (y := mX0_takenBy) (pc := 13) dX0_takenBy_13 rfl rfl ?_
        refine go_icmp_ne (y := mX0_takenBy) (pc := 14) (tgt := 19) dX0_takenBy_14 (by decide) (by omega) (by omega) (fun h14 => ?_) (fun h14 => ?_)
        · skip
          refine go_iinc (y := mX0_takenBy) (pc := 19) dX0_takenBy_19 rfl (by decide) ?_
          refine go_goto (y := mX0_takenBy) (pc := 22) (tgt := 2) dX0_takenBy_22 (by decide) ?_
          exact ih (n - 1) (by omega) (k + 1) (by omega) (lt_s hn h14)
        · skip
          refine go_iload_n (y := mX0_takenBy) (pc := 17) dX0_takenBy_17 rfl rfl ?_
          refine go_ireturn (y := mX0_takenBy) (pc := 18) dX0_takenBy_18 rfl ?_
          exact K _ (fnd_1 (by omega) h14 hn).symm (by omega)
  refine go_iconst (y := mX0_takenBy) (pc := 0) dX0_takenBy_0 ?_
  refine go_istore_n (y := mX0_takenBy) (pc := 1) dX0_takenBy_1 rfl (by decide) ?_
  exact loop 4 0 rfl lt_0
set_option maxRecDepth 8000 in
set_option maxHeartbeats 4000000 in
theorem c_isSpeechAbout {c : Nat} (hc : is_ch c) {σ μ : Mem} {q : Int} (hq : rng q) {Q : Option Value → Mem → Prop} {X : String → Mem → Prop} (K : ∀ v, v = bI (spa σ q) → v = 0 ∨ v = 1 → Q (some (.int (iI v))) (put c σ μ)) : mt 276 1 0 0 mX0_isSpeechAbout [.ref (c + 15), .int (iI q)] Q X (put c σ μ) := by
  show go 276 1 0 0 mX0_isSpeechAbout Q X 0 [.ref (c + 15), .int (iI q), .null] [] _
  have loop : ∀ (n k : Nat), k + n = 4 → (∀ i, i < k → ¬ (σ 16 i ≠ -1 ∧ σ 17 i = q)) → go 276 1 0 0 mX0_isSpeechAbout Q X 2 [.ref (c + 15), .int (iI q), .int (iI (k : Nat))] [] (put c σ μ) := by
    intro n
    induction n using Nat.strongRecOn with
    | _ n ih =>
      intro k hk hn
      refine go_iload_n (y := mX0_isSpeechAbout) (pc := 2) dX0_isSpeechAbout_2 rfl rfl ?_
      refine go_iconst (y := mX0_isSpeechAbout) (pc := 3) dX0_isSpeechAbout_3 ?_
      refine go_icmp_ge (y := mX0_isSpeechAbout) (pc := 4) (tgt := 33) dX0_isSpeechAbout_4 (by decide) (by omega) (by omega) (fun h4 => ?_) (fun h4 => ?_)
      · skip
        refine go_iconst (y := mX0_isSpeechAbout) (pc := 33) dX0_isSpeechAbout_33 ?_
        refine go_zreturn (y := mX0_isSpeechAbout) (pc := 34) dX0_isSpeechAbout_34 rfl (by omega) ?_
        exact K _ (bI_f (fun w => w (fnd_0 (fun i hi => hn i (by omega))))).symm (by omega)
      · skip
        refine go_aload_n (y := mX0_isSpeechAbout) (pc := 7) dX0_isSpeechAbout_7 rfl rfl ?_
        refine go_iload_n (y := mX0_isSpeechAbout) (pc := 8) dX0_isSpeechAbout_8 rfl rfl ?_
        refine go_callV1 (y := mX0_isSpeechAbout) (pc := 9) (y' := mX0_isFree) (kc2 := 0) (ks2 := 0) dX0_isSpeechAbout_9 ml_X0_37 ok_X0_isFree (ch_sh hc 15 (by decide)) ⟨_, _, rfl⟩ (ch_z (r := 15) hc (by decide)) rfl (by decide) (Nat.le_of_ble_eq_true rfl) rfl (c_isFree hc (h := k) (by omega) (fun v9 e9 b9 => ?_))
        refine go_if_ne (y := mX0_isSpeechAbout) (pc := 12) (tgt := 27) dX0_isSpeechAbout_12 (by decide) (by omega) (fun h12 => ?_) (fun h12 => ?_)
        · skip
          refine go_iinc (y := mX0_isSpeechAbout) (pc := 27) dX0_isSpeechAbout_27 rfl (by decide) ?_
          refine go_goto (y := mX0_isSpeechAbout) (pc := 30) (tgt := 2) dX0_isSpeechAbout_30 (by decide) ?_
          exact ih (n - 1) (by omega) (k + 1) (by omega) (lt_s hn (fun w => w.1 (by rw [bI] at e9; split at e9 <;> omega)))
        · skip
          refine go_aload_n (y := mX0_isSpeechAbout) (pc := 15) dX0_isSpeechAbout_15 rfl rfl ?_
          refine go_getR (y := mX0_isSpeechAbout) (pc := 16) dX0_isSpeechAbout_16 fl_X0_15 (ch_sh hc 15 (by decide)) rfl (ch_z (r := 15) hc (by decide)) ?_
          refine go_iload_n (y := mX0_isSpeechAbout) (pc := 19) dX0_isSpeechAbout_19 rfl rfl ?_
          refine go_cial (y := mX0_isSpeechAbout) (pc := 20) (r := 17) (k := k) dX0_isSpeechAbout_20 hc (by decide) rfl (by decide) rfl (by omega) (by decide) (fun r20 => ?_)
          refine go_iload_n (y := mX0_isSpeechAbout) (pc := 21) dX0_isSpeechAbout_21 rfl rfl ?_
          refine go_icmp_ne (y := mX0_isSpeechAbout) (pc := 22) (tgt := 27) dX0_isSpeechAbout_22 (by decide) (by omega) (by omega) (fun h22 => ?_) (fun h22 => ?_)
          · skip
            refine go_iinc (y := mX0_isSpeechAbout) (pc := 27) dX0_isSpeechAbout_27 rfl (by decide) ?_
            refine go_goto (y := mX0_isSpeechAbout) (pc := 30) (tgt := 2) dX0_isSpeechAbout_30 (by decide) ?_
            exact ih (n - 1) (by omega) (k + 1) (by omega) (lt_s hn (fun w => h22 w.2))
          · skip
            refine go_iconst (y := mX0_isSpeechAbout) (pc := 25) dX0_isSpeechAbout_25 ?_
            refine go_zreturn (y := mX0_isSpeechAbout) (pc := 26) dX0_isSpeechAbout_26 rfl (by omega) ?_
            exact K _ (bI_t (by have h9 := fnd_1 (p := fun h => σ 16 h ≠ -1 ∧ σ 17 h = q) (k := k) (n := 4) (by omega) ⟨by rw [bI] at e9; split at e9 <;> omega, h22⟩ hn; show fnd _ 4 ≠ -1; rw [h9]; omega)).symm (by omega)
  refine go_iconst (y := mX0_isSpeechAbout) (pc := 0) dX0_isSpeechAbout_0 ?_
  refine go_istore_n (y := mX0_isSpeechAbout) (pc := 1) dX0_isSpeechAbout_1 rfl (by decide) ?_
  exact loop 4 0 rfl lt_0
set_option maxRecDepth 8000 in
set_option maxHeartbeats 4000000 in
theorem c_countMirrors {c : Nat} (hc : is_ch c) {σ μ : Mem} {Q : Option Value → Mem → Prop} {X : String → Mem → Prop} (K : Q (some (.int (iI (mrs σ)))) (put c σ μ)) : mt 276 0 0 0 mX0_countMirrors [.ref (c + 15)] Q X (put c σ μ) := by
  show go 276 0 0 0 mX0_countMirrors Q X 0 [.ref (c + 15), .null, .null] [] _
  have loop : ∀ (n k : Nat), k + n = 4 → go 276 0 0 0 mX0_countMirrors Q X 4 [.ref (c + 15), .int (iI (smf (fun h => σ 20 h) k)), .int (iI (k : Nat))] [] (put c σ μ) := by
    intro n
    induction n using Nat.strongRecOn with
    | _ n ih =>
      intro k hk
      refine go_iload_n (y := mX0_countMirrors) (pc := 4) dX0_countMirrors_4 rfl rfl ?_
      refine go_iconst (y := mX0_countMirrors) (pc := 5) dX0_countMirrors_5 ?_
      refine go_icmp_ge (y := mX0_countMirrors) (pc := 6) (tgt := 24) dX0_countMirrors_6 (by decide) (by omega) (by omega) (fun h6 => ?_) (fun h6 => ?_)
      · skip
        refine go_iload_n (y := mX0_countMirrors) (pc := 24) dX0_countMirrors_24 rfl rfl ?_
        refine go_ireturn (y := mX0_countMirrors) (pc := 25) dX0_countMirrors_25 rfl ?_
        obtain rfl : k = 4 := by omega
        exact K
      · skip
        refine go_iload_n (y := mX0_countMirrors) (pc := 9) dX0_countMirrors_9 rfl rfl ?_
        refine go_aload_n (y := mX0_countMirrors) (pc := 10) dX0_countMirrors_10 rfl rfl ?_
        refine go_getR (y := mX0_countMirrors) (pc := 11) dX0_countMirrors_11 fl_X0_24 (ch_sh hc 15 (by decide)) rfl (ch_z (r := 15) hc (by decide)) ?_
        refine go_iload_n (y := mX0_countMirrors) (pc := 14) dX0_countMirrors_14 rfl rfl ?_
        refine go_cial (y := mX0_countMirrors) (pc := 15) (r := 20) (k := k) dX0_countMirrors_15 hc (by decide) rfl (by decide) rfl (by omega) (by decide) (fun r15 => ?_)
        refine go_iadd (y := mX0_countMirrors) (pc := 16) dX0_countMirrors_16 ?_
        refine go_istore_n (y := mX0_countMirrors) (pc := 17) dX0_countMirrors_17 rfl (by decide) ?_
        refine go_iinc (y := mX0_countMirrors) (pc := 18) dX0_countMirrors_18 rfl (by decide) ?_
        refine go_goto (y := mX0_countMirrors) (pc := 21) (tgt := 4) dX0_countMirrors_21 (by decide) ?_
        exact ih (n - 1) (by omega) (k + 1) (by omega)
  refine go_iconst (y := mX0_countMirrors) (pc := 0) dX0_countMirrors_0 ?_
  refine go_istore_n (y := mX0_countMirrors) (pc := 1) dX0_countMirrors_1 rfl (by decide) ?_
  refine go_iconst (y := mX0_countMirrors) (pc := 2) dX0_countMirrors_2 ?_
  refine go_istore_n (y := mX0_countMirrors) (pc := 3) dX0_countMirrors_3 rfl (by decide) ?_
  exact loop 4 0 rfl
set_option maxRecDepth 8000 in
set_option maxHeartbeats 4000000 in
theorem c_XcopyFrom {c o : Nat} (hc : is_ch c) (ho : is_ch o) (hne : o ≠ c) {σ μ : Mem} {Q : Option Value → Mem → Prop} {X : String → Mem → Prop} (K : Q none (put c (cpr (vw o μ) (cpr (vw o μ) (cpr (vw o μ) (cpr (vw o μ) (cpr (vw o μ) σ 16 4) 17 4) 18 4) 19 4) 20 4) μ)) : mt 276 1 0 0 mX0_copyFrom [.ref (c + 15), .ref (o + 15)] Q X (put c σ μ) := by
  show go 276 1 0 0 mX0_copyFrom Q X 0 [.ref (c + 15), .ref (o + 15)] [] _
  refine go_aload_n (y := mX0_copyFrom) (pc := 0) dX0_copyFrom_0 rfl rfl ?_
  refine go_getR (y := mX0_copyFrom) (pc := 1) dX0_copyFrom_1 fl_X0_9 (ch_sh ho 15 (by decide)) rfl (ch_z (r := 15) ho (by decide)) ?_
  refine go_iconst (y := mX0_copyFrom) (pc := 4) dX0_copyFrom_4 ?_
  refine go_aload_n (y := mX0_copyFrom) (pc := 5) dX0_copyFrom_5 rfl rfl ?_
  refine go_getR (y := mX0_copyFrom) (pc := 6) dX0_copyFrom_6 fl_X0_9 (ch_sh hc 15 (by decide)) rfl (ch_z (r := 15) hc (by decide)) ?_
  refine go_iconst (y := mX0_copyFrom) (pc := 9) dX0_copyFrom_9 ?_
  refine go_iconst (y := mX0_copyFrom) (pc := 10) dX0_copyFrom_10 ?_
  refine go_ccopy (y := mX0_copyFrom) (pc := 11) (r := 16) (k := 4) dX0_copyFrom_11 ml_X0_31 hc ho hne (by decide) (fun _ => rfl) rfl (by decide) (by decide) (by decide) (by decide) (Nat.le_of_ble_eq_true rfl) ?_
  refine go_aload_n (y := mX0_copyFrom) (pc := 14) dX0_copyFrom_14 rfl rfl ?_
  refine go_getR (y := mX0_copyFrom) (pc := 15) dX0_copyFrom_15 fl_X0_15 (ch_sh ho 15 (by decide)) rfl (ch_z (r := 15) ho (by decide)) ?_
  refine go_iconst (y := mX0_copyFrom) (pc := 18) dX0_copyFrom_18 ?_
  refine go_aload_n (y := mX0_copyFrom) (pc := 19) dX0_copyFrom_19 rfl rfl ?_
  refine go_getR (y := mX0_copyFrom) (pc := 20) dX0_copyFrom_20 fl_X0_15 (ch_sh hc 15 (by decide)) rfl (ch_z (r := 15) hc (by decide)) ?_
  refine go_iconst (y := mX0_copyFrom) (pc := 23) dX0_copyFrom_23 ?_
  refine go_iconst (y := mX0_copyFrom) (pc := 24) dX0_copyFrom_24 ?_
  refine go_ccopy (y := mX0_copyFrom) (pc := 25) (r := 17) (k := 4) dX0_copyFrom_25 ml_X0_31 hc ho hne (by decide) (fun _ => rfl) rfl (by decide) (by decide) (by decide) (by decide) (Nat.le_of_ble_eq_true rfl) ?_
  refine go_aload_n (y := mX0_copyFrom) (pc := 28) dX0_copyFrom_28 rfl rfl ?_
  refine go_getR (y := mX0_copyFrom) (pc := 29) dX0_copyFrom_29 fl_X0_18 (ch_sh ho 15 (by decide)) rfl (ch_z (r := 15) ho (by decide)) ?_
  refine go_iconst (y := mX0_copyFrom) (pc := 32) dX0_copyFrom_32 ?_
  refine go_aload_n (y := mX0_copyFrom) (pc := 33) dX0_copyFrom_33 rfl rfl ?_
  refine go_getR (y := mX0_copyFrom) (pc := 34) dX0_copyFrom_34 fl_X0_18 (ch_sh hc 15 (by decide)) rfl (ch_z (r := 15) hc (by decide)) ?_
  refine go_iconst (y := mX0_copyFrom) (pc := 37) dX0_copyFrom_37 ?_
  refine go_iconst (y := mX0_copyFrom) (pc := 38) dX0_copyFrom_38 ?_
  refine go_ccopy (y := mX0_copyFrom) (pc := 39) (r := 18) (k := 4) dX0_copyFrom_39 ml_X0_31 hc ho hne (by decide) (fun _ => rfl) rfl (by decide) (by decide) (by decide) (by decide) (Nat.le_of_ble_eq_true rfl) ?_
  refine go_aload_n (y := mX0_copyFrom) (pc := 42) dX0_copyFrom_42 rfl rfl ?_
  refine go_getR (y := mX0_copyFrom) (pc := 43) dX0_copyFrom_43 fl_X0_21 (ch_sh ho 15 (by decide)) rfl (ch_z (r := 15) ho (by decide)) ?_
  refine go_iconst (y := mX0_copyFrom) (pc := 46) dX0_copyFrom_46 ?_
  refine go_aload_n (y := mX0_copyFrom) (pc := 47) dX0_copyFrom_47 rfl rfl ?_
  refine go_getR (y := mX0_copyFrom) (pc := 48) dX0_copyFrom_48 fl_X0_21 (ch_sh hc 15 (by decide)) rfl (ch_z (r := 15) hc (by decide)) ?_
  refine go_iconst (y := mX0_copyFrom) (pc := 51) dX0_copyFrom_51 ?_
  refine go_iconst (y := mX0_copyFrom) (pc := 52) dX0_copyFrom_52 ?_
  refine go_ccopy (y := mX0_copyFrom) (pc := 53) (r := 19) (k := 4) dX0_copyFrom_53 ml_X0_31 hc ho hne (by decide) (fun _ => rfl) rfl (by decide) (by decide) (by decide) (by decide) (Nat.le_of_ble_eq_true rfl) ?_
  refine go_aload_n (y := mX0_copyFrom) (pc := 56) dX0_copyFrom_56 rfl rfl ?_
  refine go_getR (y := mX0_copyFrom) (pc := 57) dX0_copyFrom_57 fl_X0_24 (ch_sh ho 15 (by decide)) rfl (ch_z (r := 15) ho (by decide)) ?_
  refine go_iconst (y := mX0_copyFrom) (pc := 60) dX0_copyFrom_60 ?_
  refine go_aload_n (y := mX0_copyFrom) (pc := 61) dX0_copyFrom_61 rfl rfl ?_
  refine go_getR (y := mX0_copyFrom) (pc := 62) dX0_copyFrom_62 fl_X0_24 (ch_sh hc 15 (by decide)) rfl (ch_z (r := 15) hc (by decide)) ?_
  refine go_iconst (y := mX0_copyFrom) (pc := 65) dX0_copyFrom_65 ?_
  refine go_iconst (y := mX0_copyFrom) (pc := 66) dX0_copyFrom_66 ?_
  refine go_ccopy (y := mX0_copyFrom) (pc := 67) (r := 20) (k := 4) dX0_copyFrom_67 ml_X0_31 hc ho hne (by decide) (fun _ => rfl) rfl (by decide) (by decide) (by decide) (by decide) (Nat.le_of_ble_eq_true rfl) ?_
  refine go_return (y := mX0_copyFrom) (pc := 70) dX0_copyFrom_70 rfl ?_
  exact K
