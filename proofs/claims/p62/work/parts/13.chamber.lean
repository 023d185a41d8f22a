/-! SETUP, as a chamber sees it -/
set_option maxRecDepth 8000 in
set_option maxHeartbeats 4000000 in
theorem s_hasMember {c : Nat} (hc : is_ch c) {σ μ : Mem} {m : Int} (hm : rng m) {Q : Option Value → Mem → Prop} {X : String → Mem → Prop} (K : ∀ v, v = bI (0 ≤ m ∧ m < su μ 0 7) → v = 0 ∨ v = 1 → Q (some (.int (iI v))) (put c σ μ)) : mt 276 0 0 0 mX7_hasMember [.ref 10, .int (iI m)] Q X (put c σ μ) := by
  show go 276 0 0 0 mX7_hasMember Q X 0 [.ref 10, .int (iI m)] [] _
  refine go_iload_n (y := mX7_hasMember) (pc := 0) dX7_hasMember_0 rfl rfl ?_
  refine go_if_lt (y := mX7_hasMember) (pc := 1) (tgt := 16) dX7_hasMember_1 (by decide) (by omega) (fun h1 => ?_) (fun h1 => ?_)
  · skip
    refine go_iconst (y := mX7_hasMember) (pc := 16) dX7_hasMember_16 ?_
    refine go_zreturn (y := mX7_hasMember) (pc := 17) dX7_hasMember_17 rfl (by omega) ?_
    exact K _ (bI_f (by omega)).symm (by omega)
  · skip
    refine go_iload_n (y := mX7_hasMember) (pc := 4) dX7_hasMember_4 rfl rfl ?_
    refine go_aload_n (y := mX7_hasMember) (pc := 5) dX7_hasMember_5 rfl rfl ?_
    refine go_sget (y := mX7_hasMember) (pc := 6) (r := 0) dX7_hasMember_6 fl_X7_46 hc (by decide) rfl rfl (by decide) (fun r6 => ?_)
    refine go_icmp_ge (y := mX7_hasMember) (pc := 9) (tgt := 16) dX7_hasMember_9 (by decide) (by omega) (by omega) (fun h9 => ?_) (fun h9 => ?_)
    · skip
      refine go_iconst (y := mX7_hasMember) (pc := 16) dX7_hasMember_16 ?_
      refine go_zreturn (y := mX7_hasMember) (pc := 17) dX7_hasMember_17 rfl (by omega) ?_
      exact K _ (bI_f (by omega)).symm (by omega)
    · skip
      refine go_iconst (y := mX7_hasMember) (pc := 12) dX7_hasMember_12 ?_
      refine go_goto (y := mX7_hasMember) (pc := 13) (tgt := 17) dX7_hasMember_13 (by decide) ?_
      refine go_zreturn (y := mX7_hasMember) (pc := 17) dX7_hasMember_17 rfl (by omega) ?_
      exact K _ (bI_t (by omega)).symm (by omega)
set_option maxRecDepth 8000 in
set_option maxHeartbeats 4000000 in
theorem s_hasChair {c : Nat} (hc : is_ch c) {σ μ : Mem} {h : Int} (hh : rng h) {Q : Option Value → Mem → Prop} {X : String → Mem → Prop} (K : ∀ v, v = bI (0 ≤ h ∧ h < su μ 0 0) → v = 0 ∨ v = 1 → Q (some (.int (iI v))) (put c σ μ)) : mt 276 0 0 0 mX7_hasChair [.ref 10, .int (iI h)] Q X (put c σ μ) := by
  show go 276 0 0 0 mX7_hasChair Q X 0 [.ref 10, .int (iI h)] [] _
  refine go_iload_n (y := mX7_hasChair) (pc := 0) dX7_hasChair_0 rfl rfl ?_
  refine go_if_lt (y := mX7_hasChair) (pc := 1) (tgt := 16) dX7_hasChair_1 (by decide) (by omega) (fun h1 => ?_) (fun h1 => ?_)
  · skip
    refine go_iconst (y := mX7_hasChair) (pc := 16) dX7_hasChair_16 ?_
    refine go_zreturn (y := mX7_hasChair) (pc := 17) dX7_hasChair_17 rfl (by omega) ?_
    exact K _ (bI_f (by omega)).symm (by omega)
  · skip
    refine go_iload_n (y := mX7_hasChair) (pc := 4) dX7_hasChair_4 rfl rfl ?_
    refine go_aload_n (y := mX7_hasChair) (pc := 5) dX7_hasChair_5 rfl rfl ?_
    refine go_sget (y := mX7_hasChair) (pc := 6) (r := 0) dX7_hasChair_6 fl_X7_24 hc (by decide) rfl rfl (by decide) (fun r6 => ?_)
    refine go_icmp_ge (y := mX7_hasChair) (pc := 9) (tgt := 16) dX7_hasChair_9 (by decide) (by omega) (by omega) (fun h9 => ?_) (fun h9 => ?_)
    · skip
      refine go_iconst (y := mX7_hasChair) (pc := 16) dX7_hasChair_16 ?_
      refine go_zreturn (y := mX7_hasChair) (pc := 17) dX7_hasChair_17 rfl (by omega) ?_
      exact K _ (bI_f (by omega)).symm (by omega)
    · skip
      refine go_iconst (y := mX7_hasChair) (pc := 12) dX7_hasChair_12 ?_
      refine go_goto (y := mX7_hasChair) (pc := 13) (tgt := 17) dX7_hasChair_13 (by decide) ?_
      refine go_zreturn (y := mX7_hasChair) (pc := 17) dX7_hasChair_17 rfl (by omega) ?_
      exact K _ (bI_t (by omega)).symm (by omega)
set_option maxRecDepth 8000 in
set_option maxHeartbeats 4000000 in
theorem s_isInReach {c : Nat} (hc : is_ch c) {σ μ : Mem} {m k : Nat} (hm : m < 12) (hk : k < 12) (h1 : 0 ≤ su μ 3 m ∧ su μ 3 m ≤ 20) (h2 : 0 ≤ su μ 3 k ∧ su μ 3 k ≤ 20) {Q : Option Value → Mem → Prop} {X : String → Mem → Prop} (K : ∀ v, v = bI (((su μ 3 m - su μ 3 k).natAbs : Int) ≤ su μ 0 3) → v = 0 ∨ v = 1 → Q (some (.int (iI v))) (put c σ μ)) : mt 276 1 0 0 mX7_isInReach [.ref 10, .int (iI (m : Nat)), .int (iI (k : Nat))] Q X (put c σ μ) := by
  show go 276 1 0 0 mX7_isInReach Q X 0 [.ref 10, .int (iI (m : Nat)), .int (iI (k : Nat))] [] _
  refine go_aload_n (y := mX7_isInReach) (pc := 0) dX7_isInReach_0 rfl rfl ?_
  refine go_getR (y := mX7_isInReach) (pc := 1) dX7_isInReach_1 fl_X7_18 rfl rfl (by decide) ?_
  refine go_iload_n (y := mX7_isInReach) (pc := 4) dX7_isInReach_4 rfl rfl ?_
  refine go_sial (y := mX7_isInReach) (pc := 5) (r := 3) (k := m) dX7_isInReach_5 hc (by decide) rfl (by decide) rfl (by omega) (by decide) (fun r5 => ?_)
  refine go_aload_n (y := mX7_isInReach) (pc := 6) dX7_isInReach_6 rfl rfl ?_
  refine go_getR (y := mX7_isInReach) (pc := 7) dX7_isInReach_7 fl_X7_18 rfl rfl (by decide) ?_
  refine go_iload_n (y := mX7_isInReach) (pc := 10) dX7_isInReach_10 rfl rfl ?_
  refine go_sial (y := mX7_isInReach) (pc := 11) (r := 3) (k := k) dX7_isInReach_11 hc (by decide) rfl (by decide) rfl (by omega) (by decide) (fun r11 => ?_)
  refine go_isub (y := mX7_isInReach) (pc := 12) dX7_isInReach_12 ?_
  refine go_mabs (y := mX7_isInReach) (pc := 13) dX7_isInReach_13 ml_X7_106 (by decide) (Nat.le_of_ble_eq_true rfl) (by omega) ?_
  refine go_aload_n (y := mX7_isInReach) (pc := 16) dX7_isInReach_16 rfl rfl ?_
  refine go_sget (y := mX7_isInReach) (pc := 17) (r := 0) dX7_isInReach_17 fl_X7_34 hc (by decide) rfl rfl (by decide) (fun r17 => ?_)
  refine go_icmp_gt (y := mX7_isInReach) (pc := 20) (tgt := 27) dX7_isInReach_20 (by decide) (by omega) (by omega) (fun h20 => ?_) (fun h20 => ?_)
  · skip
    refine go_iconst (y := mX7_isInReach) (pc := 27) dX7_isInReach_27 ?_
    refine go_zreturn (y := mX7_isInReach) (pc := 28) dX7_isInReach_28 rfl (by omega) ?_
    exact K _ (bI_f (by omega)).symm (by omega)
  · skip
    refine go_iconst (y := mX7_isInReach) (pc := 23) dX7_isInReach_23 ?_
    refine go_goto (y := mX7_isInReach) (pc := 24) (tgt := 28) dX7_isInReach_24 (by decide) ?_
    refine go_zreturn (y := mX7_isInReach) (pc := 28) dX7_isInReach_28 rfl (by omega) ?_
    exact K _ (bI_t (by omega)).symm (by omega)
set_option maxRecDepth 8000 in
set_option maxHeartbeats 4000000 in
theorem s_totalPurse {c : Nat} (hc : is_ch c) {σ μ : Mem} (h0 : 0 ≤ su μ 0 7) (h12 : su μ 0 7 ≤ 12) {Q : Option Value → Mem → Prop} {X : String → Mem → Prop} (K : Q (some (.int (iI (smf (fun m => su μ 4 m) (su μ 0 7).toNat)))) (put c σ μ)) : mt 276 0 0 0 mX7_totalPurse [.ref 10] Q X (put c σ μ) := by
  show go 276 0 0 0 mX7_totalPurse Q X 0 [.ref 10, .null, .null] [] _
  have loop : ∀ (n k : Nat), (k : Int) + n = su μ 0 7 → go 276 0 0 0 mX7_totalPurse Q X 4 [.ref 10, .int (iI (smf (fun m => su μ 4 m) k)), .int (iI (k : Nat))] [] (put c σ μ) := by
    intro n
    induction n using Nat.strongRecOn with
    | _ n ih =>
      intro k hk
      refine go_iload_n (y := mX7_totalPurse) (pc := 4) dX7_totalPurse_4 rfl rfl ?_
      refine go_aload_n (y := mX7_totalPurse) (pc := 5) dX7_totalPurse_5 rfl rfl ?_
      refine go_sget (y := mX7_totalPurse) (pc := 6) (r := 0) dX7_totalPurse_6 fl_X7_46 hc (by decide) rfl rfl (by decide) (fun r6 => ?_)
      refine go_icmp_ge (y := mX7_totalPurse) (pc := 9) (tgt := 27) dX7_totalPurse_9 (by decide) (by omega) (by omega) (fun h9 => ?_) (fun h9 => ?_)
      · skip
        refine go_iload_n (y := mX7_totalPurse) (pc := 27) dX7_totalPurse_27 rfl rfl ?_
        refine go_ireturn (y := mX7_totalPurse) (pc := 28) dX7_totalPurse_28 rfl ?_
        obtain rfl : k = (su μ 0 7).toNat := by omega
        exact K
      · skip
        refine go_iload_n (y := mX7_totalPurse) (pc := 12) dX7_totalPurse_12 rfl rfl ?_
        refine go_aload_n (y := mX7_totalPurse) (pc := 13) dX7_totalPurse_13 rfl rfl ?_
        refine go_getR (y := mX7_totalPurse) (pc := 14) dX7_totalPurse_14 fl_X7_21 rfl rfl (by decide) ?_
        refine go_iload_n (y := mX7_totalPurse) (pc := 17) dX7_totalPurse_17 rfl rfl ?_
        refine go_sial (y := mX7_totalPurse) (pc := 18) (r := 4) (k := k) dX7_totalPurse_18 hc (by decide) rfl (by decide) rfl (by omega) (by decide) (fun r18 => ?_)
        refine go_iadd (y := mX7_totalPurse) (pc := 19) dX7_totalPurse_19 ?_
        refine go_istore_n (y := mX7_totalPurse) (pc := 20) dX7_totalPurse_20 rfl (by decide) ?_
        refine go_iinc (y := mX7_totalPurse) (pc := 21) dX7_totalPurse_21 rfl (by decide) ?_
        refine go_goto (y := mX7_totalPurse) (pc := 24) (tgt := 4) dX7_totalPurse_24 (by decide) ?_
        exact ih (n - 1) (by omega) (k + 1) (by omega)
  refine go_iconst (y := mX7_totalPurse) (pc := 0) dX7_totalPurse_0 ?_
  refine go_istore_n (y := mX7_totalPurse) (pc := 1) dX7_totalPurse_1 rfl (by decide) ?_
  refine go_iconst (y := mX7_totalPurse) (pc := 2) dX7_totalPurse_2 ?_
  refine go_istore_n (y := mX7_totalPurse) (pc := 3) dX7_totalPurse_3 rfl (by decide) ?_
  exact loop (su μ 0 7).toNat 0 (by omega)
set_option maxRecDepth 8000 in
set_option maxHeartbeats 4000000 in
theorem s_totalWeight {c : Nat} (hc : is_ch c) {σ μ : Mem} (h0 : 0 ≤ su μ 0 7) (h12 : su μ 0 7 ≤ 12) {Q : Option Value → Mem → Prop} {X : String → Mem → Prop} (K : Q (some (.int (iI (smf (fun m => su μ 2 m) (su μ 0 7).toNat)))) (put c σ μ)) : mt 276 0 0 0 mX7_totalWeight [.ref 10] Q X (put c σ μ) := by
  show go 276 0 0 0 mX7_totalWeight Q X 0 [.ref 10, .null, .null] [] _
  have loop : ∀ (n k : Nat), (k : Int) + n = su μ 0 7 → go 276 0 0 0 mX7_totalWeight Q X 4 [.ref 10, .int (iI (smf (fun m => su μ 2 m) k)), .int (iI (k : Nat))] [] (put c σ μ) := by
    intro n
    induction n using Nat.strongRecOn with
    | _ n ih =>
      intro k hk
      refine go_iload_n (y := mX7_totalWeight) (pc := 4) dX7_totalWeight_4 rfl rfl ?_
      refine go_aload_n (y := mX7_totalWeight) (pc := 5) dX7_totalWeight_5 rfl rfl ?_
      refine go_sget (y := mX7_totalWeight) (pc := 6) (r := 0) dX7_totalWeight_6 fl_X7_46 hc (by decide) rfl rfl (by decide) (fun r6 => ?_)
      refine go_icmp_ge (y := mX7_totalWeight) (pc := 9) (tgt := 27) dX7_totalWeight_9 (by decide) (by omega) (by omega) (fun h9 => ?_) (fun h9 => ?_)
      · skip
        refine go_iload_n (y := mX7_totalWeight) (pc := 27) dX7_totalWeight_27 rfl rfl ?_
        refine go_ireturn (y := mX7_totalWeight) (pc := 28) dX7_totalWeight_28 rfl ?_
        obtain rfl : k = (su μ 0 7).toNat := by omega
        exact K
      · skip
        refine go_iload_n (y := mX7_totalWeight) (pc := 12) dX7_totalWeight_12 rfl rfl ?_
        refine go_aload_n (y := mX7_totalWeight) (pc := 13) dX7_totalWeight_13 rfl rfl ?_
        refine go_getR (y := mX7_totalWeight) (pc := 14) dX7_totalWeight_14 fl_X7_15 rfl rfl (by decide) ?_
        refine go_iload_n (y := mX7_totalWeight) (pc := 17) dX7_totalWeight_17 rfl rfl ?_
        refine go_sial (y := mX7_totalWeight) (pc := 18) (r := 2) (k := k) dX7_totalWeight_18 hc (by decide) rfl (by decide) rfl (by omega) (by decide) (fun r18 => ?_)
        refine go_iadd (y := mX7_totalWeight) (pc := 19) dX7_totalWeight_19 ?_
        refine go_istore_n (y := mX7_totalWeight) (pc := 20) dX7_totalWeight_20 rfl (by decide) ?_
        refine go_iinc (y := mX7_totalWeight) (pc := 21) dX7_totalWeight_21 rfl (by decide) ?_
        refine go_goto (y := mX7_totalWeight) (pc := 24) (tgt := 4) dX7_totalWeight_24 (by decide) ?_
        exact ih (n - 1) (by omega) (k + 1) (by omega)
  refine go_iconst (y := mX7_totalWeight) (pc := 0) dX7_totalWeight_0 ?_
  refine go_istore_n (y := mX7_totalWeight) (pc := 1) dX7_totalWeight_1 rfl (by decide) ?_
  refine go_iconst (y := mX7_totalWeight) (pc := 2) dX7_totalWeight_2 ?_
  refine go_istore_n (y := mX7_totalWeight) (pc := 3) dX7_totalWeight_3 rfl (by decide) ?_
  exact loop (su μ 0 7).toNat 0 (by omega)
/-! CHAMBER -/
set_option maxRecDepth 8000 in
set_option maxHeartbeats 4000000 in
theorem c_clear {c : Nat} (hc : is_ch c) {σ μ : Mem} {Q : Option Value → Mem → Prop} {X : String → Mem → Prop} (K : Q none (put c (wr (wr (wr (wr (wr (wr (clk (wr (wr (mck (su μ) σ 12) 5 0 0) 11 0 0) 4) 0 5 0) 0 6 0) 0 7 0) 0 8 0) 0 9 0) 0 10 0) μ)) : mt 276 2 0 0 mX1_clear [.ref c] Q X (put c σ μ) := by
  show go 276 2 0 0 mX1_clear Q X 0 [.ref c] [] _
  refine go_aload_n (y := mX1_clear) (pc := 0) dX1_clear_0 rfl rfl ?_
  refine go_getR (y := mX1_clear) (pc := 1) dX1_clear_1 fl_X1_12 (ch_sh hc 0 (by decide)) rfl (ch_z (r := 0) hc (by decide)) ?_
  refine go_aload_n (y := mX1_clear) (pc := 4) dX1_clear_4 rfl rfl ?_
  refine go_getR (y := mX1_clear) (pc := 5) dX1_clear_5 fl_X1_39 (ch_sh hc 0 (by decide)) rfl (ch_z (r := 0) hc (by decide)) ?_
  refine go_callV1 (y := mX1_clear) (pc := 8) (y' := mX3_clear) (kc2 := 0) (ks2 := 0) dX1_clear_8 ml_X1_43 ok_X3_clear (ch_sh hc 1 (by decide)) ⟨_, _, rfl⟩ (ch_z (r := 1) hc (by decide)) rfl (by decide) (Nat.le_of_ble_eq_true rfl) rfl (c_Mclear hc ?_)
  refine go_aload_n (y := mX1_clear) (pc := 11) dX1_clear_11 rfl rfl ?_
  refine go_getR (y := mX1_clear) (pc := 12) dX1_clear_12 fl_X1_21 (ch_sh hc 0 (by decide)) rfl (ch_z (r := 0) hc (by decide)) ?_
  refine go_iconst (y := mX1_clear) (pc := 15) dX1_clear_15 ?_
  refine go_cput (y := mX1_clear) (pc := 16) (r := 5) dX1_clear_16 fp_X1_47 hc (by decide) rfl rfl (by decide) (by omega) ?_
  refine go_aload_n (y := mX1_clear) (pc := 19) dX1_clear_19 rfl rfl ?_
  refine go_getR (y := mX1_clear) (pc := 20) dX1_clear_20 fl_X1_28 (ch_sh hc 0 (by decide)) rfl (ch_z (r := 0) hc (by decide)) ?_
  refine go_iconst (y := mX1_clear) (pc := 23) dX1_clear_23 ?_
  refine go_cput (y := mX1_clear) (pc := 24) (r := 11) dX1_clear_24 fp_X1_51 hc (by decide) rfl rfl (by decide) (by omega) ?_
  refine go_aload_n (y := mX1_clear) (pc := 27) dX1_clear_27 rfl rfl ?_
  refine go_getR (y := mX1_clear) (pc := 28) dX1_clear_28 fl_X1_35 (ch_sh hc 0 (by decide)) rfl (ch_z (r := 0) hc (by decide)) ?_
  refine go_callV0 (y := mX1_clear) (pc := 31) (y' := mX0_clear) (kc2 := 0) (ks2 := 0) dX1_clear_31 ml_X1_52 ok_X0_clear (ch_sh hc 15 (by decide)) ⟨_, _, rfl⟩ (ch_z (r := 15) hc (by decide)) trivial (by decide) (Nat.le_of_ble_eq_true rfl) rfl (c_Xclear hc ?_)
  refine go_aload_n (y := mX1_clear) (pc := 34) dX1_clear_34 rfl rfl ?_
  refine go_iconst (y := mX1_clear) (pc := 35) dX1_clear_35 ?_
  refine go_cput (y := mX1_clear) (pc := 36) (r := 0) dX1_clear_36 fp_X1_54 hc (by decide) rfl rfl (by decide) (by omega) ?_
  refine go_aload_n (y := mX1_clear) (pc := 39) dX1_clear_39 rfl rfl ?_
  refine go_iconst (y := mX1_clear) (pc := 40) dX1_clear_40 ?_
  refine go_cput (y := mX1_clear) (pc := 41) (r := 0) dX1_clear_41 fp_X1_57 hc (by decide) rfl rfl (by decide) (by omega) ?_
  refine go_aload_n (y := mX1_clear) (pc := 44) dX1_clear_44 rfl rfl ?_
  refine go_iconst (y := mX1_clear) (pc := 45) dX1_clear_45 ?_
  refine go_cput (y := mX1_clear) (pc := 46) (r := 0) dX1_clear_46 fp_X1_60 hc (by decide) rfl rfl (by decide) (by omega) ?_
  refine go_aload_n (y := mX1_clear) (pc := 49) dX1_clear_49 rfl rfl ?_
  refine go_iconst (y := mX1_clear) (pc := 50) dX1_clear_50 ?_
  refine go_cput (y := mX1_clear) (pc := 51) (r := 0) dX1_clear_51 fp_X1_63 hc (by decide) rfl rfl (by decide) (by omega) ?_
  refine go_aload_n (y := mX1_clear) (pc := 54) dX1_clear_54 rfl rfl ?_
  refine go_iconst (y := mX1_clear) (pc := 55) dX1_clear_55 ?_
  refine go_cput (y := mX1_clear) (pc := 56) (r := 0) dX1_clear_56 fp_X1_66 hc (by decide) rfl rfl (by decide) (by omega) ?_
  refine go_aload_n (y := mX1_clear) (pc := 59) dX1_clear_59 rfl rfl ?_
  refine go_iconst (y := mX1_clear) (pc := 60) dX1_clear_60 ?_
  refine go_cput (y := mX1_clear) (pc := 61) (r := 0) dX1_clear_61 fp_X1_69 hc (by decide) rfl rfl (by decide) (by omega) ?_
  refine go_return (y := mX1_clear) (pc := 64) dX1_clear_64 rfl ?_
  exact K
def cpM (t s : Mem) : Mem := cpr t (cpr t (cpr t s 2 12) 3 12) 4 12
def cpT (t s : Mem) : Mem := cpr t (cpr t (cpr t (cpr t (cpr t (wr s 5 0 (t 5 0)) 6 16) 7 16) 8 16) 9 16) 10 192
def cpQ (t s : Mem) : Mem := cpr t (cpr t (cpr t (wr s 11 0 (t 11 0)) 12 12) 13 12) 14 12
def cpX (t s : Mem) : Mem := cpr t (cpr t (cpr t (cpr t (cpr t s 16 4) 17 4) 18 4) 19 4) 20 4
def cpC (t s : Mem) : Mem := wr (wr (wr (wr (wr (wr (cpX t (cpQ t (cpT t (cpM t s)))) 0 5 (t 0 5)) 0 6 (t 0 6)) 0 7 (t 0 7)) 0 8 (t 0 8)) 0 9 (t 0 9)) 0 10 (t 0 10)
set_option maxRecDepth 8000 in
set_option maxHeartbeats 4000000 in
theorem c_copyFrom {c o : Nat} (hc : is_ch c) (ho : is_ch o) (hne : o ≠ c) {σ μ : Mem} {Q : Option Value → Mem → Prop} {X : String → Mem → Prop} (K : Q none (put c (cpC (vw o μ) σ) μ)) : mt 276 2 0 0 mX1_copyFrom [.ref c, .ref o] Q X (put c σ μ) := by
  show go 276 2 0 0 mX1_copyFrom Q X 0 [.ref c, .ref o] [] _
  refine go_aload_n (y := mX1_copyFrom) (pc := 0) dX1_copyFrom_0 rfl rfl ?_
  refine go_getR (y := mX1_copyFrom) (pc := 1) dX1_copyFrom_1 fl_X1_12 (ch_sh hc 0 (by decide)) rfl (ch_z (r := 0) hc (by decide)) ?_
  refine go_aload_n (y := mX1_copyFrom) (pc := 4) dX1_copyFrom_4 rfl rfl ?_
  refine go_getR (y := mX1_copyFrom) (pc := 5) dX1_copyFrom_5 fl_X1_12 (ch_sh ho 0 (by decide)) rfl (ch_z (r := 0) ho (by decide)) ?_
  refine go_callV1 (y := mX1_copyFrom) (pc := 8) (y' := mX3_copyFrom) (kc2 := 0) (ks2 := 0) dX1_copyFrom_8 ml_X1_72 ok_X3_copyFrom (ch_sh hc 1 (by decide)) ⟨_, _, rfl⟩ (ch_z (r := 1) hc (by decide)) rfl (by decide) (Nat.le_of_ble_eq_true rfl) rfl (c_McopyFrom hc ho hne ?_)
  refine go_aload_n (y := mX1_copyFrom) (pc := 11) dX1_copyFrom_11 rfl rfl ?_
  refine go_getR (y := mX1_copyFrom) (pc := 12) dX1_copyFrom_12 fl_X1_21 (ch_sh hc 0 (by decide)) rfl (ch_z (r := 0) hc (by decide)) ?_
  refine go_aload_n (y := mX1_copyFrom) (pc := 15) dX1_copyFrom_15 rfl rfl ?_
  refine go_getR (y := mX1_copyFrom) (pc := 16) dX1_copyFrom_16 fl_X1_21 (ch_sh ho 0 (by decide)) rfl (ch_z (r := 0) ho (by decide)) ?_
  refine go_callV1 (y := mX1_copyFrom) (pc := 19) (y' := mX4_copyFrom) (kc2 := 0) (ks2 := 0) dX1_copyFrom_19 ml_X1_76 ok_X4_copyFrom (ch_sh hc 5 (by decide)) ⟨_, _, rfl⟩ (ch_z (r := 5) hc (by decide)) rfl (by decide) (Nat.le_of_ble_eq_true rfl) rfl (c_TcopyFrom hc ho hne ?_)
  refine go_aload_n (y := mX1_copyFrom) (pc := 22) dX1_copyFrom_22 rfl rfl ?_
  refine go_getR (y := mX1_copyFrom) (pc := 23) dX1_copyFrom_23 fl_X1_28 (ch_sh hc 0 (by decide)) rfl (ch_z (r := 0) hc (by decide)) ?_
  refine go_aload_n (y := mX1_copyFrom) (pc := 26) dX1_copyFrom_26 rfl rfl ?_
  refine go_getR (y := mX1_copyFrom) (pc := 27) dX1_copyFrom_27 fl_X1_28 (ch_sh ho 0 (by decide)) rfl (ch_z (r := 0) ho (by decide)) ?_
  refine go_callV1 (y := mX1_copyFrom) (pc := 30) (y' := mX5_copyFrom) (kc2 := 0) (ks2 := 0) dX1_copyFrom_30 ml_X1_79 ok_X5_copyFrom (ch_sh hc 11 (by decide)) ⟨_, _, rfl⟩ (ch_z (r := 11) hc (by decide)) rfl (by decide) (Nat.le_of_ble_eq_true rfl) rfl (c_QcopyFrom hc ho hne ?_)
  refine go_aload_n (y := mX1_copyFrom) (pc := 33) dX1_copyFrom_33 rfl rfl ?_
  refine go_getR (y := mX1_copyFrom) (pc := 34) dX1_copyFrom_34 fl_X1_35 (ch_sh hc 0 (by decide)) rfl (ch_z (r := 0) hc (by decide)) ?_
  refine go_aload_n (y := mX1_copyFrom) (pc := 37) dX1_copyFrom_37 rfl rfl ?_
  refine go_getR (y := mX1_copyFrom) (pc := 38) dX1_copyFrom_38 fl_X1_35 (ch_sh ho 0 (by decide)) rfl (ch_z (r := 0) ho (by decide)) ?_
  refine go_callV1 (y := mX1_copyFrom) (pc := 41) (y' := mX0_copyFrom) (kc2 := 0) (ks2 := 0) dX1_copyFrom_41 ml_X1_82 ok_X0_copyFrom (ch_sh hc 15 (by decide)) ⟨_, _, rfl⟩ (ch_z (r := 15) hc (by decide)) rfl (by decide) (Nat.le_of_ble_eq_true rfl) rfl (c_XcopyFrom hc ho hne ?_)
  refine go_aload_n (y := mX1_copyFrom) (pc := 44) dX1_copyFrom_44 rfl rfl ?_
  refine go_aload_n (y := mX1_copyFrom) (pc := 45) dX1_copyFrom_45 rfl rfl ?_
  refine go_oget (y := mX1_copyFrom) (pc := 46) (r := 0) dX1_copyFrom_46 fl_X1_54 hc ho hne (by decide) rfl rfl (by decide) (fun r46 => ?_)
  refine go_cput (y := mX1_copyFrom) (pc := 49) (r := 0) dX1_copyFrom_49 fp_X1_54 hc (by decide) rfl rfl (by decide) (by omega) ?_
  refine go_aload_n (y := mX1_copyFrom) (pc := 52) dX1_copyFrom_52 rfl rfl ?_
  refine go_aload_n (y := mX1_copyFrom) (pc := 53) dX1_copyFrom_53 rfl rfl ?_
  refine go_oget (y := mX1_copyFrom) (pc := 54) (r := 0) dX1_copyFrom_54 fl_X1_57 hc ho hne (by decide) rfl rfl (by decide) (fun r54 => ?_)
  refine go_cput (y := mX1_copyFrom) (pc := 57) (r := 0) dX1_copyFrom_57 fp_X1_57 hc (by decide) rfl rfl (by decide) (by omega) ?_
  refine go_aload_n (y := mX1_copyFrom) (pc := 60) dX1_copyFrom_60 rfl rfl ?_
  refine go_aload_n (y := mX1_copyFrom) (pc := 61) dX1_copyFrom_61 rfl rfl ?_
  refine go_oget (y := mX1_copyFrom) (pc := 62) (r := 0) dX1_copyFrom_62 fl_X1_60 hc ho hne (by decide) rfl rfl (by decide) (fun r62 => ?_)
  refine go_cput (y := mX1_copyFrom) (pc := 65) (r := 0) dX1_copyFrom_65 fp_X1_60 hc (by decide) rfl rfl (by decide) (by omega) ?_
  refine go_aload_n (y := mX1_copyFrom) (pc := 68) dX1_copyFrom_68 rfl rfl ?_
  refine go_aload_n (y := mX1_copyFrom) (pc := 69) dX1_copyFrom_69 rfl rfl ?_
  refine go_oget (y := mX1_copyFrom) (pc := 70) (r := 0) dX1_copyFrom_70 fl_X1_63 hc ho hne (by decide) rfl rfl (by decide) (fun r70 => ?_)
  refine go_cput (y := mX1_copyFrom) (pc := 73) (r := 0) dX1_copyFrom_73 fp_X1_63 hc (by decide) rfl rfl (by decide) (by omega) ?_
  refine go_aload_n (y := mX1_copyFrom) (pc := 76) dX1_copyFrom_76 rfl rfl ?_
  refine go_aload_n (y := mX1_copyFrom) (pc := 77) dX1_copyFrom_77 rfl rfl ?_
  refine go_oget (y := mX1_copyFrom) (pc := 78) (r := 0) dX1_copyFrom_78 fl_X1_66 hc ho hne (by decide) rfl rfl (by decide) (fun r78 => ?_)
  refine go_cput (y := mX1_copyFrom) (pc := 81) (r := 0) dX1_copyFrom_81 fp_X1_66 hc (by decide) rfl rfl (by decide) (by omega) ?_
  refine go_aload_n (y := mX1_copyFrom) (pc := 84) dX1_copyFrom_84 rfl rfl ?_
  refine go_aload_n (y := mX1_copyFrom) (pc := 85) dX1_copyFrom_85 rfl rfl ?_
  refine go_oget (y := mX1_copyFrom) (pc := 86) (r := 0) dX1_copyFrom_86 fl_X1_69 hc ho hne (by decide) rfl rfl (by decide) (fun r86 => ?_)
  refine go_cput (y := mX1_copyFrom) (pc := 89) (r := 0) dX1_copyFrom_89 fp_X1_69 hc (by decide) rfl rfl (by decide) (by omega) ?_
  refine go_return (y := mX1_copyFrom) (pc := 92) dX1_copyFrom_92 rfl ?_
  exact K
set_option maxRecDepth 8000 in
set_option maxHeartbeats 4000000 in
theorem c_refusalOfMotion {c : Nat} (hc : is_ch c) {σ μ : Mem} {m x : Int} (hm : rng m) (hx : rng x) {Q : Option Value → Mem → Prop} {X : String → Mem → Prop} (K : ∀ v, v = rfMo (su μ) σ m x → 0 ≤ v ∧ v ≤ 3 → Q (some (.int (iI v))) (put c σ μ)) : mt 276 1 0 0 mX1_refusalOfMotion [.ref c, .int (iI m), .int (iI x)] Q X (put c σ μ) := by
  show go 276 1 0 0 mX1_refusalOfMotion Q X 0 [.ref c, .int (iI m), .int (iI x)] [] _
  refine go_aload_n (y := mX1_refusalOfMotion) (pc := 0) dX1_refusalOfMotion_0 rfl rfl ?_
  refine go_getR (y := mX1_refusalOfMotion) (pc := 1) dX1_refusalOfMotion_1 fl_X1_39 (ch_sh hc 0 (by decide)) rfl (ch_z (r := 0) hc (by decide)) ?_
  refine go_iload_n (y := mX1_refusalOfMotion) (pc := 4) dX1_refusalOfMotion_4 rfl rfl ?_
  refine go_callV1 (y := mX1_refusalOfMotion) (pc := 5) (y' := mX7_hasMember) (kc2 := 0) (ks2 := 0) dX1_refusalOfMotion_5 ml_X1_85 ok_X7_hasMember (show shp 10 = _ from rfl) ⟨_, _, rfl⟩ (by decide) rfl (by decide) (Nat.le_of_ble_eq_true rfl) rfl (s_hasMember hc (by omega) (fun v5 e5 b5 => ?_))
  refine go_if_ne (y := mX1_refusalOfMotion) (pc := 8) (tgt := 13) dX1_refusalOfMotion_8 (by decide) (by omega) (fun h8 => ?_) (fun h8 => ?_)
  · skip
    have g := bI_1 e5 h8
    refine go_iload_n (y := mX1_refusalOfMotion) (pc := 13) dX1_refusalOfMotion_13 rfl rfl ?_
    refine go_if_lt (y := mX1_refusalOfMotion) (pc := 14) (tgt := 23) dX1_refusalOfMotion_14 (by decide) (by omega) (fun h14 => ?_) (fun h14 => ?_)
    · skip
      refine go_iconst (y := mX1_refusalOfMotion) (pc := 23) dX1_refusalOfMotion_23 ?_
      refine go_ireturn (y := mX1_refusalOfMotion) (pc := 24) dX1_refusalOfMotion_24 rfl ?_
      exact K _ (by unfold rfMo; (repeat' split) <;> omega) (by omega)
    · skip
      refine go_iload_n (y := mX1_refusalOfMotion) (pc := 17) dX1_refusalOfMotion_17 rfl rfl ?_
      refine go_bipush (y := mX1_refusalOfMotion) (pc := 18) dX1_refusalOfMotion_18 (by decide) ?_
      refine go_icmp_le (y := mX1_refusalOfMotion) (pc := 20) (tgt := 25) dX1_refusalOfMotion_20 (by decide) (by omega) (by omega) (fun h20 => ?_) (fun h20 => ?_)
      · skip
        refine go_aload_n (y := mX1_refusalOfMotion) (pc := 25) dX1_refusalOfMotion_25 rfl rfl ?_
        refine go_getR (y := mX1_refusalOfMotion) (pc := 26) dX1_refusalOfMotion_26 fl_X1_21 (ch_sh hc 0 (by decide)) rfl (ch_z (r := 0) hc (by decide)) ?_
        refine go_cget (y := mX1_refusalOfMotion) (pc := 29) (r := 5) dX1_refusalOfMotion_29 fl_X1_47 hc (by decide) rfl rfl (by decide) (fun r29 => ?_)
        refine go_bipush (y := mX1_refusalOfMotion) (pc := 32) dX1_refusalOfMotion_32 (by decide) ?_
        refine go_icmp_lt (y := mX1_refusalOfMotion) (pc := 34) (tgt := 41) dX1_refusalOfMotion_34 (by decide) (by omega) (by omega) (fun h34 => ?_) (fun h34 => ?_)
        · skip
          refine go_iconst (y := mX1_refusalOfMotion) (pc := 41) dX1_refusalOfMotion_41 ?_
          refine go_ireturn (y := mX1_refusalOfMotion) (pc := 42) dX1_refusalOfMotion_42 rfl ?_
          exact K _ (by unfold rfMo; (repeat' split) <;> omega) (by omega)
        · skip
          refine go_iconst (y := mX1_refusalOfMotion) (pc := 37) dX1_refusalOfMotion_37 ?_
          refine go_goto (y := mX1_refusalOfMotion) (pc := 38) (tgt := 42) dX1_refusalOfMotion_38 (by decide) ?_
          refine go_ireturn (y := mX1_refusalOfMotion) (pc := 42) dX1_refusalOfMotion_42 rfl ?_
          exact K _ (by unfold rfMo; (repeat' split) <;> omega) (by omega)
      · skip
        refine go_iconst (y := mX1_refusalOfMotion) (pc := 23) dX1_refusalOfMotion_23 ?_
        refine go_ireturn (y := mX1_refusalOfMotion) (pc := 24) dX1_refusalOfMotion_24 rfl ?_
        exact K _ (by unfold rfMo; (repeat' split) <;> omega) (by omega)
  · skip
    have g := bI_0 e5 h8
    refine go_iconst (y := mX1_refusalOfMotion) (pc := 11) dX1_refusalOfMotion_11 ?_
    refine go_ireturn (y := mX1_refusalOfMotion) (pc := 12) dX1_refusalOfMotion_12 rfl ?_
    exact K _ (by unfold rfMo; (repeat' split) <;> omega) (by omega)
set_option maxRecDepth 8000 in
set_option maxHeartbeats 4000000 in
theorem c_addMotion {c : Nat} (hc : is_ch c) {σ μ : Mem} {m x : Int} (hm : rng m) (hx : 0 ≤ x ∧ x ≤ 20) (hS : wfS (su μ)) (h0 : 0 ≤ σ 5 0) (h16 : σ 5 0 < 16) {Q : Option Value → Mem → Prop} {X : String → Mem → Prop} (K : Q (some (.int (iI (σ 5 0)))) (put c (amo (su μ) σ m x) μ)) : mt 276 2 0 0 mX1_addMotion [.ref c, .int (iI m), .int (iI x)] Q X (put c σ μ) := by
  show go 276 2 0 0 mX1_addMotion Q X 0 [.ref c, .int (iI m), .int (iI x), .null, .null] [] _
  obtain ⟨q, hq⟩ := Int.eq_ofNat_of_zero_le h0
  have hq2 : q < 16 := by omega
  have e0 : (σ 5 0).toNat = q := by omega
  unfold amo at K
  rw [e0] at K
  have hS' := hS
  unfold wfS at hS'
  obtain ⟨-, -, -, -, -, -, -, -, -, -, -, -, -, -, n1, n2, hmem⟩ := hS'
  have am5 : ∀ k, amk (su μ) (am0 σ m q) q x k 5 0 = (q : Int) := fun k => by rw [amk_o (by decide)]; unfold am0; rw [wr_na (by decide), wr_na (by decide), wr_na (by decide), wr_na (by decide)]; exact hq
  have loop : ∀ (n k : Nat), (k : Int) + n = su μ 0 7 → go 276 2 0 0 mX1_addMotion Q X 51 [.ref c, .int (iI m), .int (iI x), .int (iI (q : Nat)), .int (iI (k : Nat))] [] (put c (amk (su μ) (am0 σ m q) q x k) μ) := by
    intro n
    induction n using Nat.strongRecOn with
    | _ n ih =>
      intro k hk
      refine go_iload (y := mX1_addMotion) (pc := 51) dX1_addMotion_51 rfl ?_
      refine go_aload_n (y := mX1_addMotion) (pc := 53) dX1_addMotion_53 rfl rfl ?_
      refine go_getR (y := mX1_addMotion) (pc := 54) dX1_addMotion_54 fl_X1_39 (ch_sh hc 0 (by decide)) rfl (ch_z (r := 0) hc (by decide)) ?_
      refine go_sget (y := mX1_addMotion) (pc := 57) (r := 0) dX1_addMotion_57 fl_X1_104 hc (by decide) rfl rfl (by decide) (fun r57 => ?_)
      refine go_icmp_ge (y := mX1_addMotion) (pc := 60) (tgt := 96) dX1_addMotion_60 (by decide) (by omega) (by omega) (fun h60 => ?_) (fun h60 => ?_)
      · skip
        refine go_aload_n (y := mX1_addMotion) (pc := 96) dX1_addMotion_96 rfl rfl ?_
        refine go_getR (y := mX1_addMotion) (pc := 97) dX1_addMotion_97 fl_X1_21 (ch_sh hc 0 (by decide)) rfl (ch_z (r := 0) hc (by decide)) ?_
        refine go_dup (y := mX1_addMotion) (pc := 100) dX1_addMotion_100 rfl ?_
        refine go_cget (y := mX1_addMotion) (pc := 101) (r := 5) dX1_addMotion_101 fl_X1_47 hc (by decide) rfl rfl (by decide) (fun r101 => ?_)
        refine go_top (b := ((q : Nat) : Int)) (am5 k) (fun t101 => ?_)
        refine go_iconst (y := mX1_addMotion) (pc := 104) dX1_addMotion_104 ?_
        refine go_iadd (y := mX1_addMotion) (pc := 105) dX1_addMotion_105 ?_
        refine go_cput (y := mX1_addMotion) (pc := 106) (r := 5) dX1_addMotion_106 fp_X1_47 hc (by decide) rfl rfl (by decide) (by omega) ?_
        refine go_iload_n (y := mX1_addMotion) (pc := 109) dX1_addMotion_109 rfl rfl ?_
        refine go_ireturn (y := mX1_addMotion) (pc := 110) dX1_addMotion_110 rfl ?_
        have e : k = (su μ 0 7).toNat := by omega
        subst e
        rw [hq] at K
        exact K
      · skip
        refine go_aload_n (y := mX1_addMotion) (pc := 63) dX1_addMotion_63 rfl rfl ?_
        refine go_getR (y := mX1_addMotion) (pc := 64) dX1_addMotion_64 fl_X1_21 (ch_sh hc 0 (by decide)) rfl (ch_z (r := 0) hc (by decide)) ?_
        refine go_iload (y := mX1_addMotion) (pc := 67) dX1_addMotion_67 rfl ?_
        refine go_iload_n (y := mX1_addMotion) (pc := 69) dX1_addMotion_69 rfl rfl ?_
        refine go_iconst (y := mX1_addMotion) (pc := 70) dX1_addMotion_70 ?_
        refine go_aload_n (y := mX1_addMotion) (pc := 71) dX1_addMotion_71 rfl rfl ?_
        refine go_getR (y := mX1_addMotion) (pc := 72) dX1_addMotion_72 fl_X1_39 (ch_sh hc 0 (by decide)) rfl (ch_z (r := 0) hc (by decide)) ?_
        refine go_getR (y := mX1_addMotion) (pc := 75) dX1_addMotion_75 fl_X1_107 rfl rfl (by decide) ?_
        refine go_iload (y := mX1_addMotion) (pc := 78) dX1_addMotion_78 rfl ?_
        refine go_sial (y := mX1_addMotion) (pc := 80) (r := 3) (k := k) dX1_addMotion_80 hc (by decide) rfl (by decide) rfl (by omega) (by decide) (fun r80 => ?_)
        refine go_iload_n (y := mX1_addMotion) (pc := 81) dX1_addMotion_81 rfl rfl ?_
        have gm := (hmem k (by omega)).2.2
        refine go_isub (y := mX1_addMotion) (pc := 82) dX1_addMotion_82 ?_
        refine go_mabs (y := mX1_addMotion) (pc := 83) dX1_addMotion_83 ml_X1_110 (by decide) (Nat.le_of_ble_eq_true rfl) (by omega) ?_
        refine go_isub (y := mX1_addMotion) (pc := 86) dX1_addMotion_86 ?_
        refine go_callV3 (y := mX1_addMotion) (pc := 87) (y' := mX4_setLeaning) (kc2 := 0) (ks2 := 0) dX1_addMotion_87 ml_X1_116 ok_X4_setLeaning (ch_sh hc 5 (by decide)) ⟨_, _, rfl⟩ (ch_z (r := 5) hc (by decide)) ⟨rfl, rfl, rfl⟩ (by decide) (Nat.le_of_ble_eq_true rfl) rfl (c_setLeaning hc (m := k) (q := q) (by omega) (by omega) (by omega) ?_)
        refine go_iinc (y := mX1_addMotion) (pc := 90) dX1_addMotion_90 rfl (by decide) ?_
        refine go_goto (y := mX1_addMotion) (pc := 93) (tgt := 51) dX1_addMotion_93 (by decide) ?_
        exact ih (n - 1) (by omega) (k + 1) (by omega)
  refine go_aload_n (y := mX1_addMotion) (pc := 0) dX1_addMotion_0 rfl rfl ?_
  refine go_getR (y := mX1_addMotion) (pc := 1) dX1_addMotion_1 fl_X1_21 (ch_sh hc 0 (by decide)) rfl (ch_z (r := 0) hc (by decide)) ?_
  refine go_cget (y := mX1_addMotion) (pc := 4) (r := 5) dX1_addMotion_4 fl_X1_47 hc (by decide) rfl rfl (by decide) (fun r4 => ?_)
  refine go_top (b := ((q : Nat) : Int)) (hq) (fun t4 => ?_)
  refine go_istore_n (y := mX1_addMotion) (pc := 7) dX1_addMotion_7 rfl (by decide) ?_
  refine go_aload_n (y := mX1_addMotion) (pc := 8) dX1_addMotion_8 rfl rfl ?_
  refine go_getR (y := mX1_addMotion) (pc := 9) dX1_addMotion_9 fl_X1_21 (ch_sh hc 0 (by decide)) rfl (ch_z (r := 0) hc (by decide)) ?_
  refine go_getR (y := mX1_addMotion) (pc := 12) dX1_addMotion_12 fl_X1_91 (ch_sh hc 5 (by decide)) rfl (ch_z (r := 5) hc (by decide)) ?_
  refine go_iload_n (y := mX1_addMotion) (pc := 15) dX1_addMotion_15 rfl rfl ?_
  refine go_iload_n (y := mX1_addMotion) (pc := 16) dX1_addMotion_16 rfl rfl ?_
  refine go_cias (y := mX1_addMotion) (pc := 17) (r := 6) (k := q) dX1_addMotion_17 hc (by decide) rfl (by decide) rfl (by omega) (by decide) (by omega) ?_
  refine go_aload_n (y := mX1_addMotion) (pc := 18) dX1_addMotion_18 rfl rfl ?_
  refine go_getR (y := mX1_addMotion) (pc := 19) dX1_addMotion_19 fl_X1_21 (ch_sh hc 0 (by decide)) rfl (ch_z (r := 0) hc (by decide)) ?_
  refine go_getR (y := mX1_addMotion) (pc := 22) dX1_addMotion_22 fl_X1_95 (ch_sh hc 5 (by decide)) rfl (ch_z (r := 5) hc (by decide)) ?_
  refine go_iload_n (y := mX1_addMotion) (pc := 25) dX1_addMotion_25 rfl rfl ?_
  refine go_iconst (y := mX1_addMotion) (pc := 26) dX1_addMotion_26 ?_
  refine go_cias (y := mX1_addMotion) (pc := 27) (r := 7) (k := q) dX1_addMotion_27 hc (by decide) rfl (by decide) rfl (by omega) (by decide) (by omega) ?_
  refine go_aload_n (y := mX1_addMotion) (pc := 28) dX1_addMotion_28 rfl rfl ?_
  refine go_getR (y := mX1_addMotion) (pc := 29) dX1_addMotion_29 fl_X1_21 (ch_sh hc 0 (by decide)) rfl (ch_z (r := 0) hc (by decide)) ?_
  refine go_getR (y := mX1_addMotion) (pc := 32) dX1_addMotion_32 fl_X1_98 (ch_sh hc 5 (by decide)) rfl (ch_z (r := 5) hc (by decide)) ?_
  refine go_iload_n (y := mX1_addMotion) (pc := 35) dX1_addMotion_35 rfl rfl ?_
  refine go_iconst (y := mX1_addMotion) (pc := 36) dX1_addMotion_36 ?_
  refine go_cias (y := mX1_addMotion) (pc := 37) (r := 8) (k := q) dX1_addMotion_37 hc (by decide) rfl (by decide) rfl (by omega) (by decide) (by omega) ?_
  refine go_aload_n (y := mX1_addMotion) (pc := 38) dX1_addMotion_38 rfl rfl ?_
  refine go_getR (y := mX1_addMotion) (pc := 39) dX1_addMotion_39 fl_X1_21 (ch_sh hc 0 (by decide)) rfl (ch_z (r := 0) hc (by decide)) ?_
  refine go_getR (y := mX1_addMotion) (pc := 42) dX1_addMotion_42 fl_X1_101 (ch_sh hc 5 (by decide)) rfl (ch_z (r := 5) hc (by decide)) ?_
  refine go_iload_n (y := mX1_addMotion) (pc := 45) dX1_addMotion_45 rfl rfl ?_
  refine go_iconst (y := mX1_addMotion) (pc := 46) dX1_addMotion_46 ?_
  refine go_cias (y := mX1_addMotion) (pc := 47) (r := 9) (k := q) dX1_addMotion_47 hc (by decide) rfl (by decide) rfl (by omega) (by decide) (by omega) ?_
  refine go_iconst (y := mX1_addMotion) (pc := 48) dX1_addMotion_48 ?_
  refine go_istore (y := mX1_addMotion) (pc := 49) dX1_addMotion_49 (by decide) ?_
  exact loop (su μ 0 7).toNat 0 (by omega)
set_option maxRecDepth 8000 in
set_option maxHeartbeats 4000000 in
theorem c_refusalOfWithdrawal {c : Nat} (hc : is_ch c) {σ μ : Mem} {q : Int} (hq : rng q) (h16 : σ 5 0 ≤ 16) {Q : Option Value → Mem → Prop} {X : String → Mem → Prop} (K : ∀ v, v = rfWd σ q → 0 ≤ v ∧ v ≤ 3 → Q (some (.int (iI v))) (put c σ μ)) : mt 276 2 0 0 mX1_refusalOfWithdrawal [.ref c, .int (iI q)] Q X (put c σ μ) := by
  show go 276 2 0 0 mX1_refusalOfWithdrawal Q X 0 [.ref c, .int (iI q)] [] _
  refine go_aload_n (y := mX1_refusalOfWithdrawal) (pc := 0) dX1_refusalOfWithdrawal_0 rfl rfl ?_
  refine go_getR (y := mX1_refusalOfWithdrawal) (pc := 1) dX1_refusalOfWithdrawal_1 fl_X1_21 (ch_sh hc 0 (by decide)) rfl (ch_z (r := 0) hc (by decide)) ?_
  refine go_iload_n (y := mX1_refusalOfWithdrawal) (pc := 4) dX1_refusalOfWithdrawal_4 rfl rfl ?_
  refine go_callV1 (y := mX1_refusalOfWithdrawal) (pc := 5) (y' := mX4_has) (kc2 := 0) (ks2 := 0) dX1_refusalOfWithdrawal_5 ml_X1_120 ok_X4_has (ch_sh hc 5 (by decide)) ⟨_, _, rfl⟩ (ch_z (r := 5) hc (by decide)) rfl (by decide) (Nat.le_of_ble_eq_true rfl) rfl (c_has hc (by omega) (fun v5 e5 b5 => ?_))
  refine go_if_ne (y := mX1_refusalOfWithdrawal) (pc := 8) (tgt := 13) dX1_refusalOfWithdrawal_8 (by decide) (by omega) (fun h8 => ?_) (fun h8 => ?_)
  · skip
    have g := bI_1 e5 h8
    refine go_aload_n (y := mX1_refusalOfWithdrawal) (pc := 13) dX1_refusalOfWithdrawal_13 rfl rfl ?_
    refine go_getR (y := mX1_refusalOfWithdrawal) (pc := 14) dX1_refusalOfWithdrawal_14 fl_X1_21 (ch_sh hc 0 (by decide)) rfl (ch_z (r := 0) hc (by decide)) ?_
    refine go_iload_n (y := mX1_refusalOfWithdrawal) (pc := 17) dX1_refusalOfWithdrawal_17 rfl rfl ?_
    refine go_callV1 (y := mX1_refusalOfWithdrawal) (pc := 18) (y' := mX4_isOpen) (kc2 := 0) (ks2 := 0) dX1_refusalOfWithdrawal_18 ml_X1_123 ok_X4_isOpen (ch_sh hc 5 (by decide)) ⟨_, _, rfl⟩ (ch_z (r := 5) hc (by decide)) rfl (by decide) (Nat.le_of_ble_eq_true rfl) rfl (c_isOpen hc (by omega) h16 (fun v18 e18 b18 => ?_))
    refine go_if_eq (y := mX1_refusalOfWithdrawal) (pc := 21) (tgt := 35) dX1_refusalOfWithdrawal_21 (by decide) (by omega) (fun h21 => ?_) (fun h21 => ?_)
    · skip
      have g2 := bI_0 e18 h21
      refine go_iconst (y := mX1_refusalOfWithdrawal) (pc := 35) dX1_refusalOfWithdrawal_35 ?_
      refine go_goto (y := mX1_refusalOfWithdrawal) (pc := 36) (tgt := 40) dX1_refusalOfWithdrawal_36 (by decide) ?_
      refine go_ireturn (y := mX1_refusalOfWithdrawal) (pc := 40) dX1_refusalOfWithdrawal_40 rfl ?_
      exact K _ (by unfold rfWd; rw [if_pos g, if_neg (fun w => g2 w.1)]) (by omega)
    · skip
      have g2 := bI_1 e18 h21
      refine go_aload_n (y := mX1_refusalOfWithdrawal) (pc := 24) dX1_refusalOfWithdrawal_24 rfl rfl ?_
      refine go_getR (y := mX1_refusalOfWithdrawal) (pc := 25) dX1_refusalOfWithdrawal_25 fl_X1_35 (ch_sh hc 0 (by decide)) rfl (ch_z (r := 0) hc (by decide)) ?_
      refine go_iload_n (y := mX1_refusalOfWithdrawal) (pc := 28) dX1_refusalOfWithdrawal_28 rfl rfl ?_
      refine go_callV1 (y := mX1_refusalOfWithdrawal) (pc := 29) (y' := mX0_isSpeechAbout) (kc2 := 0) (ks2 := 0) dX1_refusalOfWithdrawal_29 ml_X1_126 ok_X0_isSpeechAbout (ch_sh hc 15 (by decide)) ⟨_, _, rfl⟩ (ch_z (r := 15) hc (by decide)) rfl (by decide) (Nat.le_of_ble_eq_true rfl) rfl (c_isSpeechAbout hc (by omega) (fun v29 e29 b29 => ?_))
      refine go_if_eq (y := mX1_refusalOfWithdrawal) (pc := 32) (tgt := 39) dX1_refusalOfWithdrawal_32 (by decide) (by omega) (fun h32 => ?_) (fun h32 => ?_)
      · skip
        have g3 := bI_0 e29 h32
        refine go_iconst (y := mX1_refusalOfWithdrawal) (pc := 39) dX1_refusalOfWithdrawal_39 ?_
        refine go_ireturn (y := mX1_refusalOfWithdrawal) (pc := 40) dX1_refusalOfWithdrawal_40 rfl ?_
        exact K _ (by unfold rfWd; rw [if_pos g, if_pos ⟨g2, g3⟩]) (by omega)
      · skip
        have g3 := bI_1 e29 h32
        refine go_iconst (y := mX1_refusalOfWithdrawal) (pc := 35) dX1_refusalOfWithdrawal_35 ?_
        refine go_goto (y := mX1_refusalOfWithdrawal) (pc := 36) (tgt := 40) dX1_refusalOfWithdrawal_36 (by decide) ?_
        refine go_ireturn (y := mX1_refusalOfWithdrawal) (pc := 40) dX1_refusalOfWithdrawal_40 rfl ?_
        exact K _ (by unfold rfWd; rw [if_pos g, if_neg (fun w => w.2 g3)]) (by omega)
  · skip
    have g := bI_0 e5 h8
    refine go_iconst (y := mX1_refusalOfWithdrawal) (pc := 11) dX1_refusalOfWithdrawal_11 ?_
    refine go_ireturn (y := mX1_refusalOfWithdrawal) (pc := 12) dX1_refusalOfWithdrawal_12 rfl ?_
    exact K _ (by unfold rfWd; rw [if_neg g]) (by omega)
set_option maxRecDepth 8000 in
set_option maxHeartbeats 4000000 in
theorem c_closeMotion {c : Nat} (hc : is_ch c) {σ μ : Mem} {q : Nat} (hq : q < 16) {w : Int} (hw : rng w) (h0 : 0 ≤ σ 11 0) (h12 : σ 11 0 ≤ 12) {Q : Option Value → Mem → Prop} {X : String → Mem → Prop} (K : Q (some (.int (iI (σ 11 0 - clo σ q w 11 0)))) (put c (clo σ q w) μ)) : mt 276 2 0 0 mX1_closeMotion [.ref c, .int (iI (q : Nat)), .int (iI w)] Q X (put c σ μ) := by
  show go 276 2 0 0 mX1_closeMotion Q X 0 [.ref c, .int (iI (q : Nat)), .int (iI w)] [] _
  have o : wr σ 7 q w 11 0 = σ 11 0 := wr_na (by decide)
  unfold clo at K
  rw [← o] at K
  refine go_aload_n (y := mX1_closeMotion) (pc := 0) dX1_closeMotion_0 rfl rfl ?_
  refine go_getR (y := mX1_closeMotion) (pc := 1) dX1_closeMotion_1 fl_X1_21 (ch_sh hc 0 (by decide)) rfl (ch_z (r := 0) hc (by decide)) ?_
  refine go_getR (y := mX1_closeMotion) (pc := 4) dX1_closeMotion_4 fl_X1_95 (ch_sh hc 5 (by decide)) rfl (ch_z (r := 5) hc (by decide)) ?_
  refine go_iload_n (y := mX1_closeMotion) (pc := 7) dX1_closeMotion_7 rfl rfl ?_
  refine go_iload_n (y := mX1_closeMotion) (pc := 8) dX1_closeMotion_8 rfl rfl ?_
  refine go_cias (y := mX1_closeMotion) (pc := 9) (r := 7) (k := q) dX1_closeMotion_9 hc (by decide) rfl (by decide) rfl (by omega) (by decide) (by omega) ?_
  refine go_aload_n (y := mX1_closeMotion) (pc := 10) dX1_closeMotion_10 rfl rfl ?_
  refine go_getR (y := mX1_closeMotion) (pc := 11) dX1_closeMotion_11 fl_X1_28 (ch_sh hc 0 (by decide)) rfl (ch_z (r := 0) hc (by decide)) ?_
  refine go_iload_n (y := mX1_closeMotion) (pc := 14) dX1_closeMotion_14 rfl rfl ?_
  refine go_callV1 (y := mX1_closeMotion) (pc := 15) (y' := mX5_removeAbout) (kc2 := 0) (ks2 := 0) dX1_closeMotion_15 ml_X1_129 ok_X5_removeAbout (ch_sh hc 11 (by decide)) ⟨_, _, rfl⟩ (ch_z (r := 11) hc (by decide)) rfl (by decide) (Nat.le_of_ble_eq_true rfl) rfl (c_removeAbout hc (by omega) (by omega) (by omega) ?_)
  refine go_ireturn (y := mX1_closeMotion) (pc := 18) dX1_closeMotion_18 rfl ?_
  exact K
set_option maxRecDepth 8000 in
set_option maxHeartbeats 4000000 in
theorem c_refusalOfRequest {c : Nat} (hc : is_ch c) {σ μ : Mem} {m q : Int} (hm : rng m) (hq : rng q) (h16 : σ 5 0 ≤ 16) (h11 : 0 ≤ σ 11 0) (h12 : σ 11 0 ≤ 12) {Q : Option Value → Mem → Prop} {X : String → Mem → Prop} (K : ∀ v, v = rfRq (su μ) σ m q → 0 ≤ v ∧ v ≤ 3 → Q (some (.int (iI v))) (put c σ μ)) : mt 276 2 0 0 mX1_refusalOfRequest [.ref c, .int (iI m), .int (iI q)] Q X (put c σ μ) := by
  show go 276 2 0 0 mX1_refusalOfRequest Q X 0 [.ref c, .int (iI m), .int (iI q), .null, .null] [] _
  have J61 : ∀ a b : Int, (a = 0 ∨ a = 1) → (b = 0 ∨ b = 1) → ((0 ≤ m ∧ m < su μ 0 7) ∧ (0 ≤ q ∧ q < σ 5 0)) → (a = 0 ↔ plc σ m = -1) → (b = 0 ↔ tkn σ m = -1) → go 276 2 0 0 mX1_refusalOfRequest Q X 61 [.ref c, .int (iI m), .int (iI q), .int (iI a), .int (iI b)] [] (put c σ μ) := by
    intro a b ha hb g ga gb
    refine go_aload_n (y := mX1_refusalOfRequest) (pc := 61) dX1_refusalOfRequest_61 rfl rfl ?_
    refine go_getR (y := mX1_refusalOfRequest) (pc := 62) dX1_refusalOfRequest_62 fl_X1_21 (ch_sh hc 0 (by decide)) rfl (ch_z (r := 0) hc (by decide)) ?_
    refine go_iload_n (y := mX1_refusalOfRequest) (pc := 65) dX1_refusalOfRequest_65 rfl rfl ?_
    refine go_callV1 (y := mX1_refusalOfRequest) (pc := 66) (y' := mX4_isOpen) (kc2 := 0) (ks2 := 0) dX1_refusalOfRequest_66 ml_X1_123 ok_X4_isOpen (ch_sh hc 5 (by decide)) ⟨_, _, rfl⟩ (ch_z (r := 5) hc (by decide)) rfl (by decide) (Nat.le_of_ble_eq_true rfl) rfl (c_isOpen hc (by omega) h16 (fun v66 e66 b66 => ?_))
    refine go_if_eq (y := mX1_refusalOfRequest) (pc := 69) (tgt := 81) dX1_refusalOfRequest_69 (by decide) (by omega) (fun h69 => ?_) (fun h69 => ?_)
    · skip
      have g2 := bI_0 e66 h69
      refine go_iconst (y := mX1_refusalOfRequest) (pc := 81) dX1_refusalOfRequest_81 ?_
      refine go_goto (y := mX1_refusalOfRequest) (pc := 82) (tgt := 86) dX1_refusalOfRequest_82 (by decide) ?_
      refine go_ireturn (y := mX1_refusalOfRequest) (pc := 86) dX1_refusalOfRequest_86 rfl ?_
      exact K _ (by unfold rfRq; rw [if_pos g, if_neg (fun w => g2 w.1)]) (by omega)
    · skip
      have g2 := bI_1 e66 h69
      refine go_iload_n (y := mX1_refusalOfRequest) (pc := 72) dX1_refusalOfRequest_72 rfl rfl ?_
      refine go_if_ne (y := mX1_refusalOfRequest) (pc := 73) (tgt := 81) dX1_refusalOfRequest_73 (by decide) (by omega) (fun h73 => ?_) (fun h73 => ?_)
      · skip
        refine go_iconst (y := mX1_refusalOfRequest) (pc := 81) dX1_refusalOfRequest_81 ?_
        refine go_goto (y := mX1_refusalOfRequest) (pc := 82) (tgt := 86) dX1_refusalOfRequest_82 (by decide) ?_
        refine go_ireturn (y := mX1_refusalOfRequest) (pc := 86) dX1_refusalOfRequest_86 rfl ?_
        exact K _ (by unfold rfRq; rw [if_pos g, if_neg (fun w => h73 (ga.mpr w.2.1))]) (by omega)
      · skip
        refine go_iload (y := mX1_refusalOfRequest) (pc := 76) dX1_refusalOfRequest_76 rfl ?_
        refine go_if_eq (y := mX1_refusalOfRequest) (pc := 78) (tgt := 85) dX1_refusalOfRequest_78 (by decide) (by omega) (fun h78 => ?_) (fun h78 => ?_)
        · skip
          refine go_iconst (y := mX1_refusalOfRequest) (pc := 85) dX1_refusalOfRequest_85 ?_
          refine go_ireturn (y := mX1_refusalOfRequest) (pc := 86) dX1_refusalOfRequest_86 rfl ?_
          exact K _ (by unfold rfRq; rw [if_pos g, if_pos ⟨g2, ga.mp h73, gb.mp h78⟩]) (by omega)
        · skip
          refine go_iconst (y := mX1_refusalOfRequest) (pc := 81) dX1_refusalOfRequest_81 ?_
          refine go_goto (y := mX1_refusalOfRequest) (pc := 82) (tgt := 86) dX1_refusalOfRequest_82 (by decide) ?_
          refine go_ireturn (y := mX1_refusalOfRequest) (pc := 86) dX1_refusalOfRequest_86 rfl ?_
          exact K _ (by unfold rfRq; rw [if_pos g, if_neg (fun w => h78 (gb.mpr w.2.2))]) (by omega)
  have J42 : ∀ a : Int, (a = 0 ∨ a = 1) → ((0 ≤ m ∧ m < su μ 0 7) ∧ (0 ≤ q ∧ q < σ 5 0)) → (a = 0 ↔ plc σ m = -1) → go 276 2 0 0 mX1_refusalOfRequest Q X 42 [.ref c, .int (iI m), .int (iI q), .int (iI a), .null] [] (put c σ μ) := by
    intro a ha g ga
    refine go_aload_n (y := mX1_refusalOfRequest) (pc := 42) dX1_refusalOfRequest_42 rfl rfl ?_
    refine go_getR (y := mX1_refusalOfRequest) (pc := 43) dX1_refusalOfRequest_43 fl_X1_35 (ch_sh hc 0 (by decide)) rfl (ch_z (r := 0) hc (by decide)) ?_
    refine go_iload_n (y := mX1_refusalOfRequest) (pc := 46) dX1_refusalOfRequest_46 rfl rfl ?_
    refine go_callV1 (y := mX1_refusalOfRequest) (pc := 47) (y' := mX0_takenBy) (kc2 := 0) (ks2 := 0) dX1_refusalOfRequest_47 ml_X1_135 ok_X0_takenBy (ch_sh hc 15 (by decide)) ⟨_, _, rfl⟩ (ch_z (r := 15) hc (by decide)) rfl (by decide) (Nat.le_of_ble_eq_true rfl) rfl (c_takenBy hc (by omega) (fun v47 e47 b47 => ?_))
    refine go_iconst (y := mX1_refusalOfRequest) (pc := 50) dX1_refusalOfRequest_50 ?_
    refine go_icmp_eq (y := mX1_refusalOfRequest) (pc := 51) (tgt := 58) dX1_refusalOfRequest_51 (by decide) (by omega) (by omega) (fun h51 => ?_) (fun h51 => ?_)
    · skip
      refine go_iconst (y := mX1_refusalOfRequest) (pc := 58) dX1_refusalOfRequest_58 ?_
      refine go_istore (y := mX1_refusalOfRequest) (pc := 59) dX1_refusalOfRequest_59 (by decide) ?_
      exact J61 _ _ ha (Or.inl rfl) g ga ⟨fun _ => e47 ▸ h51, fun _ => rfl⟩
    · skip
      refine go_iconst (y := mX1_refusalOfRequest) (pc := 54) dX1_refusalOfRequest_54 ?_
      refine go_goto (y := mX1_refusalOfRequest) (pc := 55) (tgt := 59) dX1_refusalOfRequest_55 (by decide) ?_
      refine go_istore (y := mX1_refusalOfRequest) (pc := 59) dX1_refusalOfRequest_59 (by decide) ?_
      exact J61 _ _ ha (Or.inr rfl) g ga ⟨fun w => absurd w (by decide), fun w => absurd (e47.trans w) h51⟩
  refine go_aload_n (y := mX1_refusalOfRequest) (pc := 0) dX1_refusalOfRequest_0 rfl rfl ?_
  refine go_getR (y := mX1_refusalOfRequest) (pc := 1) dX1_refusalOfRequest_1 fl_X1_39 (ch_sh hc 0 (by decide)) rfl (ch_z (r := 0) hc (by decide)) ?_
  refine go_iload_n (y := mX1_refusalOfRequest) (pc := 4) dX1_refusalOfRequest_4 rfl rfl ?_
  refine go_callV1 (y := mX1_refusalOfRequest) (pc := 5) (y' := mX7_hasMember) (kc2 := 0) (ks2 := 0) dX1_refusalOfRequest_5 ml_X1_85 ok_X7_hasMember (show shp 10 = _ from rfl) ⟨_, _, rfl⟩ (by decide) rfl (by decide) (Nat.le_of_ble_eq_true rfl) rfl (s_hasMember hc (by omega) (fun v5 e5 b5 => ?_))
  refine go_if_eq (y := mX1_refusalOfRequest) (pc := 8) (tgt := 22) dX1_refusalOfRequest_8 (by decide) (by omega) (fun h8 => ?_) (fun h8 => ?_)
  · skip
    have g := bI_0 e5 h8
    refine go_iconst (y := mX1_refusalOfRequest) (pc := 22) dX1_refusalOfRequest_22 ?_
    refine go_ireturn (y := mX1_refusalOfRequest) (pc := 23) dX1_refusalOfRequest_23 rfl ?_
    exact K _ (by unfold rfRq; rw [if_neg (fun w => g w.1)]) (by omega)
  · skip
    have g := bI_1 e5 h8
    refine go_aload_n (y := mX1_refusalOfRequest) (pc := 11) dX1_refusalOfRequest_11 rfl rfl ?_
    refine go_getR (y := mX1_refusalOfRequest) (pc := 12) dX1_refusalOfRequest_12 fl_X1_21 (ch_sh hc 0 (by decide)) rfl (ch_z (r := 0) hc (by decide)) ?_
    refine go_iload_n (y := mX1_refusalOfRequest) (pc := 15) dX1_refusalOfRequest_15 rfl rfl ?_
    refine go_callV1 (y := mX1_refusalOfRequest) (pc := 16) (y' := mX4_has) (kc2 := 0) (ks2 := 0) dX1_refusalOfRequest_16 ml_X1_120 ok_X4_has (ch_sh hc 5 (by decide)) ⟨_, _, rfl⟩ (ch_z (r := 5) hc (by decide)) rfl (by decide) (Nat.le_of_ble_eq_true rfl) rfl (c_has hc (by omega) (fun v16 e16 b16 => ?_))
    refine go_if_ne (y := mX1_refusalOfRequest) (pc := 19) (tgt := 24) dX1_refusalOfRequest_19 (by decide) (by omega) (fun h19 => ?_) (fun h19 => ?_)
    · skip
      have g2 := bI_1 e16 h19
      refine go_aload_n (y := mX1_refusalOfRequest) (pc := 24) dX1_refusalOfRequest_24 rfl rfl ?_
      refine go_getR (y := mX1_refusalOfRequest) (pc := 25) dX1_refusalOfRequest_25 fl_X1_28 (ch_sh hc 0 (by decide)) rfl (ch_z (r := 0) hc (by decide)) ?_
      refine go_iload_n (y := mX1_refusalOfRequest) (pc := 28) dX1_refusalOfRequest_28 rfl rfl ?_
      refine go_callV1 (y := mX1_refusalOfRequest) (pc := 29) (y' := mX5_placeOf) (kc2 := 0) (ks2 := 0) dX1_refusalOfRequest_29 ml_X1_132 ok_X5_placeOf (ch_sh hc 11 (by decide)) ⟨_, _, rfl⟩ (ch_z (r := 11) hc (by decide)) rfl (by decide) (Nat.le_of_ble_eq_true rfl) rfl (c_placeOf hc (by omega) h11 h12 (fun v29 e29 b29 => ?_))
      refine go_iconst (y := mX1_refusalOfRequest) (pc := 32) dX1_refusalOfRequest_32 ?_
      refine go_icmp_eq (y := mX1_refusalOfRequest) (pc := 33) (tgt := 40) dX1_refusalOfRequest_33 (by decide) (by omega) (by omega) (fun h33 => ?_) (fun h33 => ?_)
      · skip
        refine go_iconst (y := mX1_refusalOfRequest) (pc := 40) dX1_refusalOfRequest_40 ?_
        refine go_istore_n (y := mX1_refusalOfRequest) (pc := 41) dX1_refusalOfRequest_41 rfl (by decide) ?_
        exact J42 _ (Or.inl rfl) ⟨g, g2⟩ ⟨fun _ => e29 ▸ h33, fun _ => rfl⟩
      · skip
        refine go_iconst (y := mX1_refusalOfRequest) (pc := 36) dX1_refusalOfRequest_36 ?_
        refine go_goto (y := mX1_refusalOfRequest) (pc := 37) (tgt := 41) dX1_refusalOfRequest_37 (by decide) ?_
        refine go_istore_n (y := mX1_refusalOfRequest) (pc := 41) dX1_refusalOfRequest_41 rfl (by decide) ?_
        exact J42 _ (Or.inr rfl) ⟨g, g2⟩ ⟨fun w => absurd w (by decide), fun w => absurd (e29.trans w) h33⟩
    · skip
      have g2 := bI_0 e16 h19
      refine go_iconst (y := mX1_refusalOfRequest) (pc := 22) dX1_refusalOfRequest_22 ?_
      refine go_ireturn (y := mX1_refusalOfRequest) (pc := 23) dX1_refusalOfRequest_23 rfl ?_
      exact K _ (by unfold rfRq; rw [if_neg (fun w => g2 w.2)]) (by omega)
set_option maxRecDepth 8000 in
set_option maxHeartbeats 4000000 in
theorem c_countFreeMirrors {c : Nat} (hc : is_ch c) {σ μ : Mem} {Q : Option Value → Mem → Prop} {X : String → Mem → Prop} (K : Q (some (.int (iI (frm (su μ) σ)))) (put c σ μ)) : mt 276 1 0 0 mX1_countFreeMirrors [.ref c] Q X (put c σ μ) := by
  show go 276 1 0 0 mX1_countFreeMirrors Q X 0 [.ref c] [] _
  refine go_aload_n (y := mX1_countFreeMirrors) (pc := 0) dX1_countFreeMirrors_0 rfl rfl ?_
  refine go_getR (y := mX1_countFreeMirrors) (pc := 1) dX1_countFreeMirrors_1 fl_X1_39 (ch_sh hc 0 (by decide)) rfl (ch_z (r := 0) hc (by decide)) ?_
  refine go_sget (y := mX1_countFreeMirrors) (pc := 4) (r := 0) dX1_countFreeMirrors_4 fl_X1_138 hc (by decide) rfl rfl (by decide) (fun r4 => ?_)
  refine go_aload_n (y := mX1_countFreeMirrors) (pc := 7) dX1_countFreeMirrors_7 rfl rfl ?_
  refine go_getR (y := mX1_countFreeMirrors) (pc := 8) dX1_countFreeMirrors_8 fl_X1_35 (ch_sh hc 0 (by decide)) rfl (ch_z (r := 0) hc (by decide)) ?_
  refine go_callV0 (y := mX1_countFreeMirrors) (pc := 11) (y' := mX0_countMirrors) (kc2 := 0) (ks2 := 0) dX1_countFreeMirrors_11 ml_X1_141 ok_X0_countMirrors (ch_sh hc 15 (by decide)) ⟨_, _, rfl⟩ (ch_z (r := 15) hc (by decide)) trivial (by decide) (Nat.le_of_ble_eq_true rfl) rfl (c_countMirrors hc ?_)
  refine go_isub (y := mX1_countFreeMirrors) (pc := 14) dX1_countFreeMirrors_14 ?_
  refine go_ireturn (y := mX1_countFreeMirrors) (pc := 15) dX1_countFreeMirrors_15 rfl ?_
  exact K
set_option maxRecDepth 8000 in
set_option maxHeartbeats 4000000 in
theorem c_refusalOfRebuttal {c : Nat} (hc : is_ch c) {σ μ : Mem} {m h : Int} (hm : rng m) (hh : rng h) (hS : wfS (su μ)) (hC : wfC (su μ) σ) {Q : Option Value → Mem → Prop} {X : String → Mem → Prop} (K : ∀ v, v = rfRb (su μ) σ m h → 0 ≤ v ∧ v ≤ 3 → Q (some (.int (iI v))) (put c σ μ)) : mt 276 2 0 0 mX1_refusalOfRebuttal [.ref c, .int (iI m), .int (iI h)] Q X (put c σ μ) := by
  show go 276 2 0 0 mX1_refusalOfRebuttal Q X 0 [.ref c, .int (iI m), .int (iI h), .null] [] _
  have hfr : rng (frm (su μ) σ) := by
    have h1 := hC.1.2.2.2.2.2.2
    have h2 := hS.2.2.2.1
    have h3 := hS.2.2.1
    have h4 : 0 ≤ mrs σ := by
      have := hC.2.2.2.2.2
      refine (smf_bd (b := 1) (fun k hk => ?_)).1
      have := this k hk
      omega
    unfold frm
    omega
  refine go_aload_n (y := mX1_refusalOfRebuttal) (pc := 0) dX1_refusalOfRebuttal_0 rfl rfl ?_
  refine go_getR (y := mX1_refusalOfRebuttal) (pc := 1) dX1_refusalOfRebuttal_1 fl_X1_39 (ch_sh hc 0 (by decide)) rfl (ch_z (r := 0) hc (by decide)) ?_
  refine go_iload_n (y := mX1_refusalOfRebuttal) (pc := 4) dX1_refusalOfRebuttal_4 rfl rfl ?_
  refine go_callV1 (y := mX1_refusalOfRebuttal) (pc := 5) (y' := mX7_hasMember) (kc2 := 0) (ks2 := 0) dX1_refusalOfRebuttal_5 ml_X1_85 ok_X7_hasMember (show shp 10 = _ from rfl) ⟨_, _, rfl⟩ (by decide) rfl (by decide) (Nat.le_of_ble_eq_true rfl) rfl (s_hasMember hc (by omega) (fun v5 e5 b5 => ?_))
  refine go_if_eq (y := mX1_refusalOfRebuttal) (pc := 8) (tgt := 22) dX1_refusalOfRebuttal_8 (by decide) (by omega) (fun h8 => ?_) (fun h8 => ?_)
  · skip
    have g := bI_0 e5 h8
    refine go_iconst (y := mX1_refusalOfRebuttal) (pc := 22) dX1_refusalOfRebuttal_22 ?_
    refine go_ireturn (y := mX1_refusalOfRebuttal) (pc := 23) dX1_refusalOfRebuttal_23 rfl ?_
    exact K _ (by unfold rfRb; rw [if_neg (fun w => g w.1)]) (by omega)
  · skip
    have g := bI_1 e5 h8
    refine go_aload_n (y := mX1_refusalOfRebuttal) (pc := 11) dX1_refusalOfRebuttal_11 rfl rfl ?_
    refine go_getR (y := mX1_refusalOfRebuttal) (pc := 12) dX1_refusalOfRebuttal_12 fl_X1_39 (ch_sh hc 0 (by decide)) rfl (ch_z (r := 0) hc (by decide)) ?_
    refine go_iload_n (y := mX1_refusalOfRebuttal) (pc := 15) dX1_refusalOfRebuttal_15 rfl rfl ?_
    refine go_callV1 (y := mX1_refusalOfRebuttal) (pc := 16) (y' := mX7_hasChair) (kc2 := 0) (ks2 := 0) dX1_refusalOfRebuttal_16 ml_X1_145 ok_X7_hasChair (show shp 10 = _ from rfl) ⟨_, _, rfl⟩ (by decide) rfl (by decide) (Nat.le_of_ble_eq_true rfl) rfl (s_hasChair hc (by omega) (fun v16 e16 b16 => ?_))
    refine go_if_ne (y := mX1_refusalOfRebuttal) (pc := 19) (tgt := 24) dX1_refusalOfRebuttal_19 (by decide) (by omega) (fun h19 => ?_) (fun h19 => ?_)
    · skip
      have g2 := bI_1 e16 h19
      obtain ⟨k, rfl⟩ := Int.eq_ofNat_of_zero_le g2.1
      obtain ⟨i, rfl⟩ := Int.eq_ofNat_of_zero_le g.1
      have hk4 : k < 4 := by have := hS.2.1; omega
      have hi12 : i < 12 := by have := hS.2.2.2.2.2.2.2.2.2.2.2.2.2.2.2.1; omega
      have e0 : (Int.ofNat k).toNat = k := rfl
      have hX := hC.2.2.2.2.2 k hk4
      refine go_aload_n (y := mX1_refusalOfRebuttal) (pc := 24) dX1_refusalOfRebuttal_24 rfl rfl ?_
      refine go_getR (y := mX1_refusalOfRebuttal) (pc := 25) dX1_refusalOfRebuttal_25 fl_X1_35 (ch_sh hc 0 (by decide)) rfl (ch_z (r := 0) hc (by decide)) ?_
      refine go_iload_n (y := mX1_refusalOfRebuttal) (pc := 28) dX1_refusalOfRebuttal_28 rfl rfl ?_
      refine go_callV1 (y := mX1_refusalOfRebuttal) (pc := 29) (y' := mX0_isFree) (kc2 := 0) (ks2 := 0) dX1_refusalOfRebuttal_29 ml_X1_148 ok_X0_isFree (ch_sh hc 15 (by decide)) ⟨_, _, rfl⟩ (ch_z (r := 15) hc (by decide)) rfl (by decide) (Nat.le_of_ble_eq_true rfl) rfl (c_isFree hc (h := k) (by omega) (fun v29 e29 b29 => ?_))
      refine go_if_ne (y := mX1_refusalOfRebuttal) (pc := 32) (tgt := 53) dX1_refusalOfRebuttal_32 (by decide) (by omega) (fun h32 => ?_) (fun h32 => ?_)
      · skip
        refine go_iconst (y := mX1_refusalOfRebuttal) (pc := 53) dX1_refusalOfRebuttal_53 ?_
        refine go_ireturn (y := mX1_refusalOfRebuttal) (pc := 54) dX1_refusalOfRebuttal_54 rfl ?_
        have g3 := bI_1 e29 h32
        exact K _ (by unfold rfRb; rw [if_pos ⟨g, g2⟩, if_neg (fun w => w.1 g3)]) (by omega)
      · skip
        have g3 := bI_0 e29 h32
        refine go_aload_n (y := mX1_refusalOfRebuttal) (pc := 35) dX1_refusalOfRebuttal_35 rfl rfl ?_
        refine go_getR (y := mX1_refusalOfRebuttal) (pc := 36) dX1_refusalOfRebuttal_36 fl_X1_35 (ch_sh hc 0 (by decide)) rfl (ch_z (r := 0) hc (by decide)) ?_
        refine go_iload_n (y := mX1_refusalOfRebuttal) (pc := 39) dX1_refusalOfRebuttal_39 rfl rfl ?_
        refine go_callV1 (y := mX1_refusalOfRebuttal) (pc := 40) (y' := mX0_isRebuttedAt) (kc2 := 0) (ks2 := 0) dX1_refusalOfRebuttal_40 ml_X1_151 ok_X0_isRebuttedAt (ch_sh hc 15 (by decide)) ⟨_, _, rfl⟩ (ch_z (r := 15) hc (by decide)) rfl (by decide) (Nat.le_of_ble_eq_true rfl) rfl (c_isReb hc (h := k) (by omega) (fun v40 e40 b40 => ?_))
        refine go_if_ne (y := mX1_refusalOfRebuttal) (pc := 43) (tgt := 53) dX1_refusalOfRebuttal_43 (by decide) (by omega) (fun h43 => ?_) (fun h43 => ?_)
        · skip
          refine go_iconst (y := mX1_refusalOfRebuttal) (pc := 53) dX1_refusalOfRebuttal_53 ?_
          refine go_ireturn (y := mX1_refusalOfRebuttal) (pc := 54) dX1_refusalOfRebuttal_54 rfl ?_
          have g4 := bI_1 e40 h43
          exact K _ (by unfold rfRb; rw [if_pos ⟨g, g2⟩, if_neg (fun w => absurd w.2.1 (by show ¬ σ 20 k ≤ 0; omega))]) (by omega)
        · skip
          have g4 := bI_0 e40 h43
          refine go_aload_n (y := mX1_refusalOfRebuttal) (pc := 46) dX1_refusalOfRebuttal_46 rfl rfl ?_
          refine go_callV0 (y := mX1_refusalOfRebuttal) (pc := 47) (y' := mX1_countFreeMirrors) (kc2 := 0) (ks2 := 0) dX1_refusalOfRebuttal_47 ml_X1_154 ok_X1_countFreeMirrors (ch_sh hc 0 (by decide)) ⟨_, _, rfl⟩ (ch_z (r := 0) hc (by decide)) trivial (by decide) (Nat.le_of_ble_eq_true rfl) rfl (c_countFreeMirrors hc ?_)
          refine go_if_gt (y := mX1_refusalOfRebuttal) (pc := 50) (tgt := 55) dX1_refusalOfRebuttal_50 (by decide) (by omega) (fun h50 => ?_) (fun h50 => ?_)
          · skip
            refine go_aload_n (y := mX1_refusalOfRebuttal) (pc := 55) dX1_refusalOfRebuttal_55 rfl rfl ?_
            refine go_getR (y := mX1_refusalOfRebuttal) (pc := 56) dX1_refusalOfRebuttal_56 fl_X1_35 (ch_sh hc 0 (by decide)) rfl (ch_z (r := 0) hc (by decide)) ?_
            refine go_iload_n (y := mX1_refusalOfRebuttal) (pc := 59) dX1_refusalOfRebuttal_59 rfl rfl ?_
            refine go_callV1 (y := mX1_refusalOfRebuttal) (pc := 60) (y' := mX0_takenBy) (kc2 := 0) (ks2 := 0) dX1_refusalOfRebuttal_60 ml_X1_135 ok_X0_takenBy (ch_sh hc 15 (by decide)) ⟨_, _, rfl⟩ (ch_z (r := 15) hc (by decide)) rfl (by decide) (Nat.le_of_ble_eq_true rfl) rfl (c_takenBy hc (by omega) (fun v60 e60 b60 => ?_))
            refine go_iconst (y := mX1_refusalOfRebuttal) (pc := 63) dX1_refusalOfRebuttal_63 ?_
            refine go_icmp_eq (y := mX1_refusalOfRebuttal) (pc := 64) (tgt := 69) dX1_refusalOfRebuttal_64 (by decide) (by omega) (by omega) (fun h64 => ?_) (fun h64 => ?_)
            · skip
              obtain ⟨x, hx⟩ := Int.eq_ofNat_of_zero_le (show 0 ≤ σ 17 k by omega)
              have hx16 : x < 16 := by have := hC.1.2.1; omega
              have hln : -20 ≤ ln σ i x ∧ ln σ i x ≤ 20 := (hC.2.2.1 x (by omega)).2.2.2.2.2.2.2.2 i (by omega)
              have hsd : σ 18 k = 1 ∨ σ 18 k = -1 := by omega
              have ex : (σ 17 k).toNat = x := by omega
              have g6 : tkn σ (i : Int) = -1 := by rw [← e60]; exact h64
              have g7 : 0 < frm (su μ) σ := h50
              refine go_aload_n (y := mX1_refusalOfRebuttal) (pc := 69) dX1_refusalOfRebuttal_69 rfl rfl ?_
              refine go_getR (y := mX1_refusalOfRebuttal) (pc := 70) dX1_refusalOfRebuttal_70 fl_X1_21 (ch_sh hc 0 (by decide)) rfl (ch_z (r := 0) hc (by decide)) ?_
              refine go_iload_n (y := mX1_refusalOfRebuttal) (pc := 73) dX1_refusalOfRebuttal_73 rfl rfl ?_
              refine go_aload_n (y := mX1_refusalOfRebuttal) (pc := 74) dX1_refusalOfRebuttal_74 rfl rfl ?_
              refine go_getR (y := mX1_refusalOfRebuttal) (pc := 75) dX1_refusalOfRebuttal_75 fl_X1_35 (ch_sh hc 0 (by decide)) rfl (ch_z (r := 0) hc (by decide)) ?_
              refine go_getR (y := mX1_refusalOfRebuttal) (pc := 78) dX1_refusalOfRebuttal_78 fl_X1_157 (ch_sh hc 15 (by decide)) rfl (ch_z (r := 15) hc (by decide)) ?_
              refine go_iload_n (y := mX1_refusalOfRebuttal) (pc := 81) dX1_refusalOfRebuttal_81 rfl rfl ?_
              refine go_cial (y := mX1_refusalOfRebuttal) (pc := 82) (r := 17) (k := k) dX1_refusalOfRebuttal_82 hc (by decide) rfl (by decide) rfl (by omega) (by decide) (fun r82 => ?_)
              refine go_top (b := ((x : Nat) : Int)) (hx) (fun t82 => ?_)
              refine go_callV2 (y := mX1_refusalOfRebuttal) (pc := 83) (y' := mX4_leaningOf) (kc2 := 0) (ks2 := 0) dX1_refusalOfRebuttal_83 ml_X1_160 ok_X4_leaningOf (ch_sh hc 5 (by decide)) ⟨_, _, rfl⟩ (ch_z (r := 5) hc (by decide)) ⟨rfl, rfl⟩ (by decide) (Nat.le_of_ble_eq_true rfl) rfl (c_leaningOf hc (m := i) (q := x) (by omega) (by omega) (fun r83 => ?_))
              refine go_aload_n (y := mX1_refusalOfRebuttal) (pc := 86) dX1_refusalOfRebuttal_86 rfl rfl ?_
              refine go_getR (y := mX1_refusalOfRebuttal) (pc := 87) dX1_refusalOfRebuttal_87 fl_X1_35 (ch_sh hc 0 (by decide)) rfl (ch_z (r := 0) hc (by decide)) ?_
              refine go_getR (y := mX1_refusalOfRebuttal) (pc := 90) dX1_refusalOfRebuttal_90 fl_X1_164 (ch_sh hc 15 (by decide)) rfl (ch_z (r := 15) hc (by decide)) ?_
              refine go_iload_n (y := mX1_refusalOfRebuttal) (pc := 93) dX1_refusalOfRebuttal_93 rfl rfl ?_
              refine go_cial (y := mX1_refusalOfRebuttal) (pc := 94) (r := 18) (k := k) dX1_refusalOfRebuttal_94 hc (by decide) rfl (by decide) rfl (by omega) (by decide) (fun r94 => ?_)
              refine go_imul (y := mX1_refusalOfRebuttal) (pc := 95) dX1_refusalOfRebuttal_95 ?_
              have hr : rng (ln σ i x * σ 18 k) := by rcases hsd with h | h <;> rw [h] <;> constructor <;> omega
              refine go_istore_n (y := mX1_refusalOfRebuttal) (pc := 96) dX1_refusalOfRebuttal_96 rfl (by decide) ?_
              refine go_iload_n (y := mX1_refusalOfRebuttal) (pc := 97) dX1_refusalOfRebuttal_97 rfl rfl ?_
              refine go_if_ge (y := mX1_refusalOfRebuttal) (pc := 98) (tgt := 105) dX1_refusalOfRebuttal_98 (by decide) (by omega) (fun h98 => ?_) (fun h98 => ?_)
              · skip
                refine go_iconst (y := mX1_refusalOfRebuttal) (pc := 105) dX1_refusalOfRebuttal_105 ?_
                refine go_ireturn (y := mX1_refusalOfRebuttal) (pc := 106) dX1_refusalOfRebuttal_106 rfl ?_
                exact K _ (by unfold rfRb; rw [if_pos ⟨g, g2⟩, if_neg (fun w => absurd w.2.2.2.2 (by show ¬ ln σ i (σ 17 k).toNat * σ 18 k < 0; rw [ex]; omega))]) (by omega)
              · skip
                refine go_iconst (y := mX1_refusalOfRebuttal) (pc := 101) dX1_refusalOfRebuttal_101 ?_
                refine go_goto (y := mX1_refusalOfRebuttal) (pc := 102) (tgt := 106) dX1_refusalOfRebuttal_102 (by decide) ?_
                refine go_ireturn (y := mX1_refusalOfRebuttal) (pc := 106) dX1_refusalOfRebuttal_106 rfl ?_
                exact K _ (by unfold rfRb; rw [if_pos ⟨g, g2⟩, if_pos ⟨g3, by show σ 20 k ≤ 0; omega, g7, g6, by show ln σ i (σ 17 k).toNat * σ 18 k < 0; rw [ex]; omega⟩]) (by omega)
            · skip
              refine go_iconst (y := mX1_refusalOfRebuttal) (pc := 67) dX1_refusalOfRebuttal_67 ?_
              refine go_ireturn (y := mX1_refusalOfRebuttal) (pc := 68) dX1_refusalOfRebuttal_68 rfl ?_
              exact K _ (by unfold rfRb; rw [if_pos ⟨g, g2⟩, if_neg (fun w => h64 (e60.trans w.2.2.2.1))]) (by omega)
          · skip
            refine go_iconst (y := mX1_refusalOfRebuttal) (pc := 53) dX1_refusalOfRebuttal_53 ?_
            refine go_ireturn (y := mX1_refusalOfRebuttal) (pc := 54) dX1_refusalOfRebuttal_54 rfl ?_
            exact K _ (by unfold rfRb; rw [if_pos ⟨g, g2⟩, if_neg (fun w => absurd w.2.2.1 (by omega))]) (by omega)
    · skip
      have g2 := bI_0 e16 h19
      refine go_iconst (y := mX1_refusalOfRebuttal) (pc := 22) dX1_refusalOfRebuttal_22 ?_
      refine go_ireturn (y := mX1_refusalOfRebuttal) (pc := 23) dX1_refusalOfRebuttal_23 rfl ?_
      exact K _ (by unfold rfRb; rw [if_neg (fun w => g2 w.2)]) (by omega)
set_option maxRecDepth 8000 in
set_option maxHeartbeats 4000000 in
theorem c_addRebuttal {c : Nat} (hc : is_ch c) {σ μ : Mem} {h : Nat} (hh : h < 4) {Q : Option Value → Mem → Prop} {X : String → Mem → Prop} (K : Q (some (.int (iI (frm (su μ) (reb σ h))))) (put c (reb σ h) μ)) : mt 276 2 0 0 mX1_addRebuttal [.ref c, .int (iI (h : Nat))] Q X (put c σ μ) := by
  show go 276 2 0 0 mX1_addRebuttal Q X 0 [.ref c, .int (iI (h : Nat))] [] _
  refine go_aload_n (y := mX1_addRebuttal) (pc := 0) dX1_addRebuttal_0 rfl rfl ?_
  refine go_getR (y := mX1_addRebuttal) (pc := 1) dX1_addRebuttal_1 fl_X1_35 (ch_sh hc 0 (by decide)) rfl (ch_z (r := 0) hc (by decide)) ?_
  refine go_getR (y := mX1_addRebuttal) (pc := 4) dX1_addRebuttal_4 fl_X1_167 (ch_sh hc 15 (by decide)) rfl (ch_z (r := 15) hc (by decide)) ?_
  refine go_iload_n (y := mX1_addRebuttal) (pc := 7) dX1_addRebuttal_7 rfl rfl ?_
  refine go_iconst (y := mX1_addRebuttal) (pc := 8) dX1_addRebuttal_8 ?_
  refine go_cias (y := mX1_addRebuttal) (pc := 9) (r := 20) (k := h) dX1_addRebuttal_9 hc (by decide) rfl (by decide) rfl (by omega) (by decide) (by omega) ?_
  refine go_aload_n (y := mX1_addRebuttal) (pc := 10) dX1_addRebuttal_10 rfl rfl ?_
  refine go_dup (y := mX1_addRebuttal) (pc := 11) dX1_addRebuttal_11 rfl ?_
  refine go_cget (y := mX1_addRebuttal) (pc := 12) (r := 0) dX1_addRebuttal_12 fl_X1_66 hc (by decide) rfl rfl (by decide) (fun r12 => ?_)
  refine go_iconst (y := mX1_addRebuttal) (pc := 15) dX1_addRebuttal_15 ?_
  refine go_iadd (y := mX1_addRebuttal) (pc := 16) dX1_addRebuttal_16 ?_
  refine go_cputW (y := mX1_addRebuttal) (pc := 17) (r := 0) dX1_addRebuttal_17 fp_X1_66 hc (by decide) rfl rfl (by decide)  ?_
  refine go_aload_n (y := mX1_addRebuttal) (pc := 20) dX1_addRebuttal_20 rfl rfl ?_
  refine go_callV0 (y := mX1_addRebuttal) (pc := 21) (y' := mX1_countFreeMirrors) (kc2 := 0) (ks2 := 0) dX1_addRebuttal_21 ml_X1_154 ok_X1_countFreeMirrors (ch_sh hc 0 (by decide)) ⟨_, _, rfl⟩ (ch_z (r := 0) hc (by decide)) trivial (by decide) (Nat.le_of_ble_eq_true rfl) rfl (c_countFreeMirrors hc ?_)
  refine go_ireturn (y := mX1_addRebuttal) (pc := 24) dX1_addRebuttal_24 rfl ?_
  exact K
set_option maxRecDepth 8000 in
set_option maxHeartbeats 4000000 in
theorem c_refusalOfRanking {μ : Mem} {r : Int} (hr : rng r) {Q : Option Value → Mem → Prop} {X : String → Mem → Prop} (K : ∀ v, v = rfRk r → 0 ≤ v ∧ v ≤ 3 → Q (some (.int (iI v))) μ) : mt 276 0 0 0 mX1_refusalOfRanking [.int (iI r)] Q X μ := by
  show go 276 0 0 0 mX1_refusalOfRanking Q X 0 [.int (iI r)] [] _
  refine go_iload_n (y := mX1_refusalOfRanking) (pc := 0) dX1_refusalOfRanking_0 rfl rfl ?_
  refine go_if_lt (y := mX1_refusalOfRanking) (pc := 1) (tgt := 9) dX1_refusalOfRanking_1 (by decide) (by omega) (fun h1 => ?_) (fun h1 => ?_)
  · skip
    refine go_iconst (y := mX1_refusalOfRanking) (pc := 9) dX1_refusalOfRanking_9 ?_
    refine go_goto (y := mX1_refusalOfRanking) (pc := 10) (tgt := 14) dX1_refusalOfRanking_10 (by decide) ?_
    refine go_ireturn (y := mX1_refusalOfRanking) (pc := 14) dX1_refusalOfRanking_14 rfl ?_
    exact K _ (by unfold rfRk; rw [if_pos (by omega)]) (by omega)
  · skip
    refine go_iload_n (y := mX1_refusalOfRanking) (pc := 4) dX1_refusalOfRanking_4 rfl rfl ?_
    refine go_iconst (y := mX1_refusalOfRanking) (pc := 5) dX1_refusalOfRanking_5 ?_
    refine go_icmp_le (y := mX1_refusalOfRanking) (pc := 6) (tgt := 13) dX1_refusalOfRanking_6 (by decide) (by omega) (by omega) (fun h6 => ?_) (fun h6 => ?_)
    · skip
      refine go_iconst (y := mX1_refusalOfRanking) (pc := 13) dX1_refusalOfRanking_13 ?_
      refine go_ireturn (y := mX1_refusalOfRanking) (pc := 14) dX1_refusalOfRanking_14 rfl ?_
      exact K _ (by unfold rfRk; rw [if_neg (by omega)]) (by omega)
    · skip
      refine go_iconst (y := mX1_refusalOfRanking) (pc := 9) dX1_refusalOfRanking_9 ?_
      refine go_goto (y := mX1_refusalOfRanking) (pc := 10) (tgt := 14) dX1_refusalOfRanking_10 (by decide) ?_
      refine go_ireturn (y := mX1_refusalOfRanking) (pc := 14) dX1_refusalOfRanking_14 rfl ?_
      exact K _ (by unfold rfRk; rw [if_pos (by omega)]) (by omega)
set_option maxRecDepth 8000 in
set_option maxHeartbeats 4000000 in
theorem c_refusalOfWait {c : Nat} (hc : is_ch c) {σ μ : Mem} {n : Int} (hn : rng n) {Q : Option Value → Mem → Prop} {X : String → Mem → Prop} (K : ∀ v, v = rfWt σ n → 0 ≤ v ∧ v ≤ 3 → Q (some (.int (iI v))) (put c σ μ)) : mt 276 0 0 0 mX1_refusalOfWait [.ref c, .int (iI n)] Q X (put c σ μ) := by
  show go 276 0 0 0 mX1_refusalOfWait Q X 0 [.ref c, .int (iI n)] [] _
  refine go_iload_n (y := mX1_refusalOfWait) (pc := 0) dX1_refusalOfWait_0 rfl rfl ?_
  refine go_iconst (y := mX1_refusalOfWait) (pc := 1) dX1_refusalOfWait_1 ?_
  refine go_icmp_lt (y := mX1_refusalOfWait) (pc := 2) (tgt := 11) dX1_refusalOfWait_2 (by decide) (by omega) (by omega) (fun h2 => ?_) (fun h2 => ?_)
  · skip
    refine go_iconst (y := mX1_refusalOfWait) (pc := 11) dX1_refusalOfWait_11 ?_
    refine go_ireturn (y := mX1_refusalOfWait) (pc := 12) dX1_refusalOfWait_12 rfl ?_
    exact K _ (by unfold rfWt; rw [if_pos (by omega)]) (by omega)
  · skip
    refine go_iload_n (y := mX1_refusalOfWait) (pc := 5) dX1_refusalOfWait_5 rfl rfl ?_
    refine go_bipush (y := mX1_refusalOfWait) (pc := 6) dX1_refusalOfWait_6 (by decide) ?_
    refine go_icmp_le (y := mX1_refusalOfWait) (pc := 8) (tgt := 13) dX1_refusalOfWait_8 (by decide) (by omega) (by omega) (fun h8 => ?_) (fun h8 => ?_)
    · skip
      refine go_aload_n (y := mX1_refusalOfWait) (pc := 13) dX1_refusalOfWait_13 rfl rfl ?_
      refine go_cget (y := mX1_refusalOfWait) (pc := 14) (r := 0) dX1_refusalOfWait_14 fl_X1_54 hc (by decide) rfl rfl (by decide) (fun r14 => ?_)
      refine go_iload_n (y := mX1_refusalOfWait) (pc := 17) dX1_refusalOfWait_17 rfl rfl ?_
      refine go_iadd (y := mX1_refusalOfWait) (pc := 18) dX1_refusalOfWait_18 ?_
      refine go_topI (b := wp (σ 0 5 + n)) (iI_wp _).symm ?_
      refine go_sipush (y := mX1_refusalOfWait) (pc := 19) dX1_refusalOfWait_19 (by decide) ?_
      refine go_icmp_le (y := mX1_refusalOfWait) (pc := 22) (tgt := 29) dX1_refusalOfWait_22 (by decide) (wp_rng _) (by decide) (fun h22 => ?_) (fun h22 => ?_)
      · skip
        refine go_iconst (y := mX1_refusalOfWait) (pc := 29) dX1_refusalOfWait_29 ?_
        refine go_ireturn (y := mX1_refusalOfWait) (pc := 30) dX1_refusalOfWait_30 rfl ?_
        exact K _ (by unfold rfWt; rw [if_neg (by omega), if_neg (by omega)]) (by omega)
      · skip
        refine go_iconst (y := mX1_refusalOfWait) (pc := 25) dX1_refusalOfWait_25 ?_
        refine go_goto (y := mX1_refusalOfWait) (pc := 26) (tgt := 30) dX1_refusalOfWait_26 (by decide) ?_
        refine go_ireturn (y := mX1_refusalOfWait) (pc := 30) dX1_refusalOfWait_30 rfl ?_
        exact K _ (by unfold rfWt; rw [if_neg (by omega), if_pos (by omega)]) (by omega)
    · skip
      refine go_iconst (y := mX1_refusalOfWait) (pc := 11) dX1_refusalOfWait_11 ?_
      refine go_ireturn (y := mX1_refusalOfWait) (pc := 12) dX1_refusalOfWait_12 rfl ?_
      exact K _ (by unfold rfWt; rw [if_pos (by omega)]) (by omega)
