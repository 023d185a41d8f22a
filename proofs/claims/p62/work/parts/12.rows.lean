/-! MEMBERS, MOTIONS, REQUESTS -/
set_option maxRecDepth 8000 in
set_option maxHeartbeats 4000000 in
theorem c_Mclear {c : Nat} (hc : is_ch c) {σ μ : Mem} {Q : Option Value → Mem → Prop} {X : String → Mem → Prop} (K : Q none (put c (mck (su μ) σ 12) μ)) : mt 276 0 0 0 mX3_clear [.ref (c + 1), .ref 10] Q X (put c σ μ) := by
  show go 276 0 0 0 mX3_clear Q X 0 [.ref (c + 1), .ref 10, .null] [] _
  have loop : ∀ (n k : Nat), k + n = 12 → go 276 0 0 0 mX3_clear Q X 2 [.ref (c + 1), .ref 10, .int (iI (k : Nat))] [] (put c (mck (su μ) σ k) μ) := by
    intro n
    induction n using Nat.strongRecOn with
    | _ n ih =>
      intro k hk
      refine go_iload_n (y := mX3_clear) (pc := 2) dX3_clear_2 rfl rfl ?_
      refine go_bipush (y := mX3_clear) (pc := 3) dX3_clear_3 (by decide) ?_
      refine go_icmp_ge (y := mX3_clear) (pc := 5) (tgt := 40) dX3_clear_5 (by decide) (by omega) (by omega) (fun h5 => ?_) (fun h5 => ?_)
      · skip
        refine go_return (y := mX3_clear) (pc := 40) dX3_clear_40 rfl ?_
        obtain rfl : k = 12 := by omega
        exact K
      · skip
        refine go_aload_n (y := mX3_clear) (pc := 8) dX3_clear_8 rfl rfl ?_
        refine go_getR (y := mX3_clear) (pc := 9) dX3_clear_9 fl_X3_9 (ch_sh hc 1 (by decide)) rfl (ch_z (r := 1) hc (by decide)) ?_
        refine go_iload_n (y := mX3_clear) (pc := 12) dX3_clear_12 rfl rfl ?_
        refine go_aload_n (y := mX3_clear) (pc := 13) dX3_clear_13 rfl rfl ?_
        refine go_getR (y := mX3_clear) (pc := 14) dX3_clear_14 fl_X3_21 rfl rfl (by decide) ?_
        refine go_iload_n (y := mX3_clear) (pc := 17) dX3_clear_17 rfl rfl ?_
        refine go_sial (y := mX3_clear) (pc := 18) (r := 4) (k := k) dX3_clear_18 hc (by decide) rfl (by decide) rfl (by omega) (by decide) (fun r18 => ?_)
        refine go_cias (y := mX3_clear) (pc := 19) (r := 2) (k := k) dX3_clear_19 hc (by decide) rfl (by decide) rfl (by omega) (by decide) (by omega) ?_
        refine go_aload_n (y := mX3_clear) (pc := 20) dX3_clear_20 rfl rfl ?_
        refine go_getR (y := mX3_clear) (pc := 21) dX3_clear_21 fl_X3_15 (ch_sh hc 1 (by decide)) rfl (ch_z (r := 1) hc (by decide)) ?_
        refine go_iload_n (y := mX3_clear) (pc := 24) dX3_clear_24 rfl rfl ?_
        refine go_iconst (y := mX3_clear) (pc := 25) dX3_clear_25 ?_
        refine go_cias (y := mX3_clear) (pc := 26) (r := 3) (k := k) dX3_clear_26 hc (by decide) rfl (by decide) rfl (by omega) (by decide) (by omega) ?_
        refine go_aload_n (y := mX3_clear) (pc := 27) dX3_clear_27 rfl rfl ?_
        refine go_getR (y := mX3_clear) (pc := 28) dX3_clear_28 fl_X3_18 (ch_sh hc 1 (by decide)) rfl (ch_z (r := 1) hc (by decide)) ?_
        refine go_iload_n (y := mX3_clear) (pc := 31) dX3_clear_31 rfl rfl ?_
        refine go_iconst (y := mX3_clear) (pc := 32) dX3_clear_32 ?_
        refine go_cias (y := mX3_clear) (pc := 33) (r := 4) (k := k) dX3_clear_33 hc (by decide) rfl (by decide) rfl (by omega) (by decide) (by omega) ?_
        refine go_iinc (y := mX3_clear) (pc := 34) dX3_clear_34 rfl (by decide) ?_
        refine go_goto (y := mX3_clear) (pc := 37) (tgt := 2) dX3_clear_37 (by decide) ?_
        exact ih (n - 1) (by omega) (k + 1) (by omega)
  refine go_iconst (y := mX3_clear) (pc := 0) dX3_clear_0 ?_
  refine go_istore_n (y := mX3_clear) (pc := 1) dX3_clear_1 rfl (by decide) ?_
  exact loop 12 0 rfl
set_option maxRecDepth 8000 in
set_option maxHeartbeats 4000000 in
theorem c_McopyFrom {c o : Nat} (hc : is_ch c) (ho : is_ch o) (hne : o ≠ c) {σ μ : Mem} {Q : Option Value → Mem → Prop} {X : String → Mem → Prop} (K : Q none (put c (cpr (vw o μ) (cpr (vw o μ) (cpr (vw o μ) σ 2 12) 3 12) 4 12) μ)) : mt 276 1 0 0 mX3_copyFrom [.ref (c + 1), .ref (o + 1)] Q X (put c σ μ) := by
  show go 276 1 0 0 mX3_copyFrom Q X 0 [.ref (c + 1), .ref (o + 1)] [] _
  refine go_aload_n (y := mX3_copyFrom) (pc := 0) dX3_copyFrom_0 rfl rfl ?_
  refine go_getR (y := mX3_copyFrom) (pc := 1) dX3_copyFrom_1 fl_X3_9 (ch_sh ho 1 (by decide)) rfl (ch_z (r := 1) ho (by decide)) ?_
  refine go_iconst (y := mX3_copyFrom) (pc := 4) dX3_copyFrom_4 ?_
  refine go_aload_n (y := mX3_copyFrom) (pc := 5) dX3_copyFrom_5 rfl rfl ?_
  refine go_getR (y := mX3_copyFrom) (pc := 6) dX3_copyFrom_6 fl_X3_9 (ch_sh hc 1 (by decide)) rfl (ch_z (r := 1) hc (by decide)) ?_
  refine go_iconst (y := mX3_copyFrom) (pc := 9) dX3_copyFrom_9 ?_
  refine go_bipush (y := mX3_copyFrom) (pc := 10) dX3_copyFrom_10 (by decide) ?_
  refine go_ccopy (y := mX3_copyFrom) (pc := 12) (r := 2) (k := 12) dX3_copyFrom_12 ml_X3_24 hc ho hne (by decide) (fun _ => rfl) rfl (by decide) (by decide) (by decide) (by decide) (Nat.le_of_ble_eq_true rfl) ?_
  refine go_aload_n (y := mX3_copyFrom) (pc := 15) dX3_copyFrom_15 rfl rfl ?_
  refine go_getR (y := mX3_copyFrom) (pc := 16) dX3_copyFrom_16 fl_X3_15 (ch_sh ho 1 (by decide)) rfl (ch_z (r := 1) ho (by decide)) ?_
  refine go_iconst (y := mX3_copyFrom) (pc := 19) dX3_copyFrom_19 ?_
  refine go_aload_n (y := mX3_copyFrom) (pc := 20) dX3_copyFrom_20 rfl rfl ?_
  refine go_getR (y := mX3_copyFrom) (pc := 21) dX3_copyFrom_21 fl_X3_15 (ch_sh hc 1 (by decide)) rfl (ch_z (r := 1) hc (by decide)) ?_
  refine go_iconst (y := mX3_copyFrom) (pc := 24) dX3_copyFrom_24 ?_
  refine go_bipush (y := mX3_copyFrom) (pc := 25) dX3_copyFrom_25 (by decide) ?_
  refine go_ccopy (y := mX3_copyFrom) (pc := 27) (r := 3) (k := 12) dX3_copyFrom_27 ml_X3_24 hc ho hne (by decide) (fun _ => rfl) rfl (by decide) (by decide) (by decide) (by decide) (Nat.le_of_ble_eq_true rfl) ?_
  refine go_aload_n (y := mX3_copyFrom) (pc := 30) dX3_copyFrom_30 rfl rfl ?_
  refine go_getR (y := mX3_copyFrom) (pc := 31) dX3_copyFrom_31 fl_X3_18 (ch_sh ho 1 (by decide)) rfl (ch_z (r := 1) ho (by decide)) ?_
  refine go_iconst (y := mX3_copyFrom) (pc := 34) dX3_copyFrom_34 ?_
  refine go_aload_n (y := mX3_copyFrom) (pc := 35) dX3_copyFrom_35 rfl rfl ?_
  refine go_getR (y := mX3_copyFrom) (pc := 36) dX3_copyFrom_36 fl_X3_18 (ch_sh hc 1 (by decide)) rfl (ch_z (r := 1) hc (by decide)) ?_
  refine go_iconst (y := mX3_copyFrom) (pc := 39) dX3_copyFrom_39 ?_
  refine go_bipush (y := mX3_copyFrom) (pc := 40) dX3_copyFrom_40 (by decide) ?_
  refine go_ccopy (y := mX3_copyFrom) (pc := 42) (r := 4) (k := 12) dX3_copyFrom_42 ml_X3_24 hc ho hne (by decide) (fun _ => rfl) rfl (by decide) (by decide) (by decide) (by decide) (Nat.le_of_ble_eq_true rfl) ?_
  refine go_return (y := mX3_copyFrom) (pc := 45) dX3_copyFrom_45 rfl ?_
  exact K
set_option maxRecDepth 8000 in
set_option maxHeartbeats 4000000 in
theorem c_has {c : Nat} (hc : is_ch c) {σ μ : Mem} {q : Int} (hq : rng q) {Q : Option Value → Mem → Prop} {X : String → Mem → Prop} (K : ∀ v, v = bI (0 ≤ q ∧ q < σ 5 0) → v = 0 ∨ v = 1 → Q (some (.int (iI v))) (put c σ μ)) : mt 276 0 0 0 mX4_has [.ref (c + 5), .int (iI q)] Q X (put c σ μ) := by
  show go 276 0 0 0 mX4_has Q X 0 [.ref (c + 5), .int (iI q)] [] _
  refine go_iload_n (y := mX4_has) (pc := 0) dX4_has_0 rfl rfl ?_
  refine go_if_lt (y := mX4_has) (pc := 1) (tgt := 16) dX4_has_1 (by decide) (by omega) (fun h1 => ?_) (fun h1 => ?_)
  · skip
    refine go_iconst (y := mX4_has) (pc := 16) dX4_has_16 ?_
    refine go_zreturn (y := mX4_has) (pc := 17) dX4_has_17 rfl (by omega) ?_
    exact K _ (bI_f (by omega)).symm (by omega)
  · skip
    refine go_iload_n (y := mX4_has) (pc := 4) dX4_has_4 rfl rfl ?_
    refine go_aload_n (y := mX4_has) (pc := 5) dX4_has_5 rfl rfl ?_
    refine go_cget (y := mX4_has) (pc := 6) (r := 5) dX4_has_6 fl_X4_27 hc (by decide) rfl rfl (by decide) (fun r6 => ?_)
    refine go_icmp_ge (y := mX4_has) (pc := 9) (tgt := 16) dX4_has_9 (by decide) (by omega) (by omega) (fun h9 => ?_) (fun h9 => ?_)
    · skip
      refine go_iconst (y := mX4_has) (pc := 16) dX4_has_16 ?_
      refine go_zreturn (y := mX4_has) (pc := 17) dX4_has_17 rfl (by omega) ?_
      exact K _ (bI_f (by omega)).symm (by omega)
    · skip
      refine go_iconst (y := mX4_has) (pc := 12) dX4_has_12 ?_
      refine go_goto (y := mX4_has) (pc := 13) (tgt := 17) dX4_has_13 (by decide) ?_
      refine go_zreturn (y := mX4_has) (pc := 17) dX4_has_17 rfl (by omega) ?_
      exact K _ (bI_t (by omega)).symm (by omega)
theorem bI_1 {p : Prop} [Decidable p] {v : Int} (h : v = bI p) (h1 : v ≠ 0) : p := by
  unfold bI at h
  split at h
  · assumption
  · omega
theorem bI_0 {p : Prop} [Decidable p] {v : Int} (h : v = bI p) (h1 : v = 0) : ¬ p := by
  unfold bI at h
  split at h
  · omega
  · assumption
theorem bI_c {p q : Prop} [Decidable p] [Decidable q] (h : p ↔ q) : bI p = bI q := by
  unfold bI
  by_cases hp : p
  · rw [if_pos hp, if_pos (h.mp hp)]
  · rw [if_neg hp, if_neg (fun w => hp (h.mpr w))]
set_option maxRecDepth 8000 in
set_option maxHeartbeats 4000000 in
theorem c_isOpen {c : Nat} (hc : is_ch c) {σ μ : Mem} {q : Int} (hq : rng q) (h16 : σ 5 0 ≤ 16) {Q : Option Value → Mem → Prop} {X : String → Mem → Prop} (K : ∀ v, v = bI (opn σ q) → v = 0 ∨ v = 1 → Q (some (.int (iI v))) (put c σ μ)) : mt 276 1 0 0 mX4_isOpen [.ref (c + 5), .int (iI q)] Q X (put c σ μ) := by
  show go 276 1 0 0 mX4_isOpen Q X 0 [.ref (c + 5), .int (iI q)] [] _
  refine go_aload_n (y := mX4_isOpen) (pc := 0) dX4_isOpen_0 rfl rfl ?_
  refine go_iload_n (y := mX4_isOpen) (pc := 1) dX4_isOpen_1 rfl rfl ?_
  refine go_callV1 (y := mX4_isOpen) (pc := 2) (y' := mX4_has) (kc2 := 0) (ks2 := 0) dX4_isOpen_2 ml_X4_37 ok_X4_has (ch_sh hc 5 (by decide)) ⟨_, _, rfl⟩ (ch_z (r := 5) hc (by decide)) rfl (by decide) (Nat.le_of_ble_eq_true rfl) rfl (c_has hc (by omega) (fun v2 e2 b2 => ?_))
  refine go_if_eq (y := mX4_isOpen) (pc := 5) (tgt := 21) dX4_isOpen_5 (by decide) (by omega) (fun h5 => ?_) (fun h5 => ?_)
  · skip
    refine go_iconst (y := mX4_isOpen) (pc := 21) dX4_isOpen_21 ?_
    refine go_zreturn (y := mX4_isOpen) (pc := 22) dX4_isOpen_22 rfl (by omega) ?_
    have g2 := bI_0 e2 h5
    exact K _ (bI_f (fun w => g2 ⟨w.1, w.2.1⟩)).symm (by omega)
  · skip
    refine go_aload_n (y := mX4_isOpen) (pc := 8) dX4_isOpen_8 rfl rfl ?_
    refine go_getR (y := mX4_isOpen) (pc := 9) dX4_isOpen_9 fl_X4_15 (ch_sh hc 5 (by decide)) rfl (ch_z (r := 5) hc (by decide)) ?_
    refine go_iload_n (y := mX4_isOpen) (pc := 12) dX4_isOpen_12 rfl rfl ?_
    have g2 := bI_1 e2 (by omega)
    refine go_cial (y := mX4_isOpen) (pc := 13) (r := 7) (k := q.toNat) dX4_isOpen_13 hc (by decide) rfl (by decide) (by omega) (by omega) (by decide) (fun r13 => ?_)
    refine go_if_ne (y := mX4_isOpen) (pc := 14) (tgt := 21) dX4_isOpen_14 (by decide) (by omega) (fun h14 => ?_) (fun h14 => ?_)
    · skip
      refine go_iconst (y := mX4_isOpen) (pc := 21) dX4_isOpen_21 ?_
      refine go_zreturn (y := mX4_isOpen) (pc := 22) dX4_isOpen_22 rfl (by omega) ?_
      exact K _ (bI_f (fun w => h14 w.2.2)).symm (by omega)
    · skip
      refine go_iconst (y := mX4_isOpen) (pc := 17) dX4_isOpen_17 ?_
      refine go_goto (y := mX4_isOpen) (pc := 18) (tgt := 22) dX4_isOpen_18 (by decide) ?_
      refine go_zreturn (y := mX4_isOpen) (pc := 22) dX4_isOpen_22 rfl (by omega) ?_
      exact K _ (bI_t ⟨g2.1, g2.2, h14⟩).symm (by omega)
set_option maxRecDepth 8000 in
set_option maxHeartbeats 4000000 in
theorem c_leaningOf {c : Nat} (hc : is_ch c) {σ μ : Mem} {m q : Nat} (hm : m < 12) (hq : q < 16) {Q : Option Value → Mem → Prop} {X : String → Mem → Prop} (K : rng (ln σ m q) → Q (some (.int (iI (ln σ m q)))) (put c σ μ)) : mt 276 0 0 0 mX4_leaningOf [.ref (c + 5), .int (iI (m : Nat)), .int (iI (q : Nat))] Q X (put c σ μ) := by
  show go 276 0 0 0 mX4_leaningOf Q X 0 [.ref (c + 5), .int (iI (m : Nat)), .int (iI (q : Nat))] [] _
  refine go_aload_n (y := mX4_leaningOf) (pc := 0) dX4_leaningOf_0 rfl rfl ?_
  refine go_getR (y := mX4_leaningOf) (pc := 1) dX4_leaningOf_1 fl_X4_24 (ch_sh hc 5 (by decide)) rfl (ch_z (r := 5) hc (by decide)) ?_
  refine go_iload_n (y := mX4_leaningOf) (pc := 4) dX4_leaningOf_4 rfl rfl ?_
  refine go_bipush (y := mX4_leaningOf) (pc := 5) dX4_leaningOf_5 (by decide) ?_
  refine go_imul (y := mX4_leaningOf) (pc := 7) dX4_leaningOf_7 ?_
  refine go_iload_n (y := mX4_leaningOf) (pc := 8) dX4_leaningOf_8 rfl rfl ?_
  refine go_iadd (y := mX4_leaningOf) (pc := 9) dX4_leaningOf_9 ?_
  refine go_cial (y := mX4_leaningOf) (pc := 10) (r := 10) (k := ((q * 12) + m)) dX4_leaningOf_10 hc (by decide) rfl (by decide) (by omega) (by omega) (by decide) (fun r10 => ?_)
  refine go_ireturn (y := mX4_leaningOf) (pc := 11) dX4_leaningOf_11 rfl ?_
  exact K (by assumption)
set_option maxRecDepth 8000 in
set_option maxHeartbeats 4000000 in
theorem c_setLeaning {c : Nat} (hc : is_ch c) {σ μ : Mem} {m q : Nat} (hm : m < 12) (hq : q < 16) {v : Int} (hv : rng v) {Q : Option Value → Mem → Prop} {X : String → Mem → Prop} (K : Q none (put c (sln σ m q v) μ)) : mt 276 1 0 0 mX4_setLeaning [.ref (c + 5), .int (iI (m : Nat)), .int (iI (q : Nat)), .int (iI v)] Q X (put c σ μ) := by
  show go 276 1 0 0 mX4_setLeaning Q X 0 [.ref (c + 5), .int (iI (m : Nat)), .int (iI (q : Nat)), .int (iI v)] [] _
  refine go_aload_n (y := mX4_setLeaning) (pc := 0) dX4_setLeaning_0 rfl rfl ?_
  refine go_getR (y := mX4_setLeaning) (pc := 1) dX4_setLeaning_1 fl_X4_24 (ch_sh hc 5 (by decide)) rfl (ch_z (r := 5) hc (by decide)) ?_
  refine go_iload_n (y := mX4_setLeaning) (pc := 4) dX4_setLeaning_4 rfl rfl ?_
  refine go_bipush (y := mX4_setLeaning) (pc := 5) dX4_setLeaning_5 (by decide) ?_
  refine go_imul (y := mX4_setLeaning) (pc := 7) dX4_setLeaning_7 ?_
  refine go_iload_n (y := mX4_setLeaning) (pc := 8) dX4_setLeaning_8 rfl rfl ?_
  refine go_iadd (y := mX4_setLeaning) (pc := 9) dX4_setLeaning_9 ?_
  refine go_bipush (y := mX4_setLeaning) (pc := 10) dX4_setLeaning_10 (by decide) ?_
  refine go_iload_n (y := mX4_setLeaning) (pc := 12) dX4_setLeaning_12 rfl rfl ?_
  refine go_bipush (y := mX4_setLeaning) (pc := 13) dX4_setLeaning_13 (by decide) ?_
  refine go_mmin (y := mX4_setLeaning) (pc := 15) dX4_setLeaning_15 ml_X4_41 (by decide) (Nat.le_of_ble_eq_true rfl) (by omega) (by omega) ?_
  refine go_mmax (y := mX4_setLeaning) (pc := 18) dX4_setLeaning_18 ml_X4_47 (by decide) (Nat.le_of_ble_eq_true rfl) (by omega) (by omega) ?_
  refine go_cias (y := mX4_setLeaning) (pc := 21) (r := 10) (k := ((q * 12) + m)) dX4_setLeaning_21 hc (by decide) rfl (by decide) (by omega) (by omega) (by decide) (by omega) ?_
  refine go_return (y := mX4_setLeaning) (pc := 22) dX4_setLeaning_22 rfl ?_
  exact K
set_option maxRecDepth 8000 in
set_option maxHeartbeats 4000000 in
theorem c_dry {c : Nat} (hc : is_ch c) {σ μ : Mem} (h0 : 0 ≤ σ 5 0) (h16 : σ 5 0 ≤ 16) {Q : Option Value → Mem → Prop} {X : String → Mem → Prop} (K : Q none (put c (dry σ) μ)) : mt 276 0 0 0 mX4_dry [.ref (c + 5)] Q X (put c σ μ) := by
  show go 276 0 0 0 mX4_dry Q X 0 [.ref (c + 5), .null] [] _
  have o5 : ∀ k, dry_k σ k 5 0 = σ 5 0 := fun k => if_neg (by omega)
  have o7 : ∀ k j, dry_k σ k 7 j = σ 7 j := fun k j => if_neg (by omega)
  have o8 : ∀ k, dry_k σ k 8 k = σ 8 k := fun k => if_neg (by omega)
  have loop : ∀ (n k : Nat), (k : Int) + n = σ 5 0 → go 276 0 0 0 mX4_dry Q X 2 [.ref (c + 5), .int (iI (k : Nat))] [] (put c (dry_k σ k) μ) := by
    intro n
    induction n using Nat.strongRecOn with
    | _ n ih =>
      intro k hk
      refine go_iload_n (y := mX4_dry) (pc := 2) dX4_dry_2 rfl rfl ?_
      refine go_aload_n (y := mX4_dry) (pc := 3) dX4_dry_3 rfl rfl ?_
      refine go_cget (y := mX4_dry) (pc := 4) (r := 5) dX4_dry_4 fl_X4_27 hc (by decide) rfl rfl (by decide) (fun r4 => ?_)
      refine go_top (b := σ 5 0) (o5 k) (fun t4 => ?_)
      refine go_icmp_ge (y := mX4_dry) (pc := 7) (tgt := 44) dX4_dry_7 (by decide) (by omega) (by omega) (fun h7 => ?_) (fun h7 => ?_)
      · skip
        refine go_return (y := mX4_dry) (pc := 44) dX4_dry_44 rfl ?_
        have e : k = (σ 5 0).toNat := by omega
        subst e
        exact K
      · skip
        refine go_aload_n (y := mX4_dry) (pc := 10) dX4_dry_10 rfl rfl ?_
        refine go_getR (y := mX4_dry) (pc := 11) dX4_dry_11 fl_X4_15 (ch_sh hc 5 (by decide)) rfl (ch_z (r := 5) hc (by decide)) ?_
        refine go_iload_n (y := mX4_dry) (pc := 14) dX4_dry_14 rfl rfl ?_
        refine go_cial (y := mX4_dry) (pc := 15) (r := 7) (k := k) dX4_dry_15 hc (by decide) rfl (by decide) rfl (by omega) (by decide) (fun r15 => ?_)
        refine go_top (b := σ 7 k) (o7 k k) (fun t15 => ?_)
        refine go_if_ne (y := mX4_dry) (pc := 16) (tgt := 38) dX4_dry_16 (by decide) (by omega) (fun h16 => ?_) (fun h16 => ?_)
        · skip
          refine go_iinc (y := mX4_dry) (pc := 38) dX4_dry_38 rfl (by decide) ?_
          refine go_goto (y := mX4_dry) (pc := 41) (tgt := 2) dX4_dry_41 (by decide) ?_
          refine go_mem (μ' := put c (dry_k σ (k + 1)) μ) (by congr 1; funext r j; simp only [dry_k]; by_cases g : j = k <;> (repeat' split) <;> first | rfl | omega | (subst g; omega)) ?_
          exact ih (n - 1) (by omega) (k + 1) (by omega)
        · skip
          refine go_aload_n (y := mX4_dry) (pc := 19) dX4_dry_19 rfl rfl ?_
          refine go_getR (y := mX4_dry) (pc := 20) dX4_dry_20 fl_X4_18 (ch_sh hc 5 (by decide)) rfl (ch_z (r := 5) hc (by decide)) ?_
          refine go_iload_n (y := mX4_dry) (pc := 23) dX4_dry_23 rfl rfl ?_
          refine go_cial (y := mX4_dry) (pc := 24) (r := 8) (k := k) dX4_dry_24 hc (by decide) rfl (by decide) rfl (by omega) (by decide) (fun r24 => ?_)
          refine go_top (b := σ 8 k) (o8 k) (fun t24 => ?_)
          refine go_if_le (y := mX4_dry) (pc := 25) (tgt := 38) dX4_dry_25 (by decide) (by omega) (fun h25 => ?_) (fun h25 => ?_)
          · skip
            refine go_iinc (y := mX4_dry) (pc := 38) dX4_dry_38 rfl (by decide) ?_
            refine go_goto (y := mX4_dry) (pc := 41) (tgt := 2) dX4_dry_41 (by decide) ?_
            refine go_mem (μ' := put c (dry_k σ (k + 1)) μ) (by congr 1; funext r j; simp only [dry_k]; by_cases g : j = k <;> (repeat' split) <;> first | rfl | omega | (subst g; omega)) ?_
            exact ih (n - 1) (by omega) (k + 1) (by omega)
          · skip
            refine go_aload_n (y := mX4_dry) (pc := 28) dX4_dry_28 rfl rfl ?_
            refine go_getR (y := mX4_dry) (pc := 29) dX4_dry_29 fl_X4_18 (ch_sh hc 5 (by decide)) rfl (ch_z (r := 5) hc (by decide)) ?_
            refine go_iload_n (y := mX4_dry) (pc := 32) dX4_dry_32 rfl rfl ?_
            refine go_dup2 (y := mX4_dry) (pc := 33) dX4_dry_33 rfl rfl ?_
            refine go_cial (y := mX4_dry) (pc := 34) (r := 8) (k := k) dX4_dry_34 hc (by decide) rfl (by decide) rfl (by omega) (by decide) (fun r34 => ?_)
            refine go_top (b := σ 8 k) (o8 k) (fun t34 => ?_)
            refine go_iconst (y := mX4_dry) (pc := 35) dX4_dry_35 ?_
            refine go_isub (y := mX4_dry) (pc := 36) dX4_dry_36 ?_
            refine go_cias (y := mX4_dry) (pc := 37) (r := 8) (k := k) dX4_dry_37 hc (by decide) rfl (by decide) rfl (by omega) (by decide) (by omega) ?_
            refine go_iinc (y := mX4_dry) (pc := 38) dX4_dry_38 rfl (by decide) ?_
            refine go_goto (y := mX4_dry) (pc := 41) (tgt := 2) dX4_dry_41 (by decide) ?_
            refine go_mem (μ' := put c (dry_k σ (k + 1)) μ) (by congr 1; funext r j; simp only [dry_k, wr]; by_cases g : j = k <;> (repeat' split) <;> first | rfl | omega | (subst g; omega)) ?_
            exact ih (n - 1) (by omega) (k + 1) (by omega)
  refine go_iconst (y := mX4_dry) (pc := 0) dX4_dry_0 ?_
  refine go_istore_n (y := mX4_dry) (pc := 1) dX4_dry_1 rfl (by decide) ?_
  refine go_mem (μ' := put c (dry_k σ 0) μ) (by congr 1; funext r j; unfold dry_k; rw [if_neg (by omega)]) ?_
  exact loop (σ 5 0).toNat 0 (by omega)
set_option maxRecDepth 8000 in
set_option maxHeartbeats 4000000 in
theorem c_TcopyFrom {c o : Nat} (hc : is_ch c) (ho : is_ch o) (hne : o ≠ c) {σ μ : Mem} {Q : Option Value → Mem → Prop} {X : String → Mem → Prop} (K : Q none (put c (cpr (vw o μ) (cpr (vw o μ) (cpr (vw o μ) (cpr (vw o μ) (cpr (vw o μ) (wr σ 5 0 (vw o μ 5 0)) 6 16) 7 16) 8 16) 9 16) 10 192) μ)) : mt 276 1 0 0 mX4_copyFrom [.ref (c + 5), .ref (o + 5)] Q X (put c σ μ) := by
  show go 276 1 0 0 mX4_copyFrom Q X 0 [.ref (c + 5), .ref (o + 5)] [] _
  refine go_aload_n (y := mX4_copyFrom) (pc := 0) dX4_copyFrom_0 rfl rfl ?_
  refine go_aload_n (y := mX4_copyFrom) (pc := 1) dX4_copyFrom_1 rfl rfl ?_
  refine go_oget (y := mX4_copyFrom) (pc := 2) (r := 5) dX4_copyFrom_2 fl_X4_27 hc ho hne (by decide) rfl rfl (by decide) (fun r2 => ?_)
  refine go_cput (y := mX4_copyFrom) (pc := 5) (r := 5) dX4_copyFrom_5 fp_X4_27 hc (by decide) rfl rfl (by decide) (by omega) ?_
  refine go_aload_n (y := mX4_copyFrom) (pc := 8) dX4_copyFrom_8 rfl rfl ?_
  refine go_getR (y := mX4_copyFrom) (pc := 9) dX4_copyFrom_9 fl_X4_9 (ch_sh ho 5 (by decide)) rfl (ch_z (r := 5) ho (by decide)) ?_
  refine go_iconst (y := mX4_copyFrom) (pc := 12) dX4_copyFrom_12 ?_
  refine go_aload_n (y := mX4_copyFrom) (pc := 13) dX4_copyFrom_13 rfl rfl ?_
  refine go_getR (y := mX4_copyFrom) (pc := 14) dX4_copyFrom_14 fl_X4_9 (ch_sh hc 5 (by decide)) rfl (ch_z (r := 5) hc (by decide)) ?_
  refine go_iconst (y := mX4_copyFrom) (pc := 17) dX4_copyFrom_17 ?_
  refine go_bipush (y := mX4_copyFrom) (pc := 18) dX4_copyFrom_18 (by decide) ?_
  refine go_ccopy (y := mX4_copyFrom) (pc := 20) (r := 6) (k := 16) dX4_copyFrom_20 ml_X4_31 hc ho hne (by decide) (fun _ => rfl) rfl (by decide) (by decide) (by decide) (by decide) (Nat.le_of_ble_eq_true rfl) ?_
  refine go_aload_n (y := mX4_copyFrom) (pc := 23) dX4_copyFrom_23 rfl rfl ?_
  refine go_getR (y := mX4_copyFrom) (pc := 24) dX4_copyFrom_24 fl_X4_15 (ch_sh ho 5 (by decide)) rfl (ch_z (r := 5) ho (by decide)) ?_
  refine go_iconst (y := mX4_copyFrom) (pc := 27) dX4_copyFrom_27 ?_
  refine go_aload_n (y := mX4_copyFrom) (pc := 28) dX4_copyFrom_28 rfl rfl ?_
  refine go_getR (y := mX4_copyFrom) (pc := 29) dX4_copyFrom_29 fl_X4_15 (ch_sh hc 5 (by decide)) rfl (ch_z (r := 5) hc (by decide)) ?_
  refine go_iconst (y := mX4_copyFrom) (pc := 32) dX4_copyFrom_32 ?_
  refine go_bipush (y := mX4_copyFrom) (pc := 33) dX4_copyFrom_33 (by decide) ?_
  refine go_ccopy (y := mX4_copyFrom) (pc := 35) (r := 7) (k := 16) dX4_copyFrom_35 ml_X4_31 hc ho hne (by decide) (fun _ => rfl) rfl (by decide) (by decide) (by decide) (by decide) (Nat.le_of_ble_eq_true rfl) ?_
  refine go_aload_n (y := mX4_copyFrom) (pc := 38) dX4_copyFrom_38 rfl rfl ?_
  refine go_getR (y := mX4_copyFrom) (pc := 39) dX4_copyFrom_39 fl_X4_18 (ch_sh ho 5 (by decide)) rfl (ch_z (r := 5) ho (by decide)) ?_
  refine go_iconst (y := mX4_copyFrom) (pc := 42) dX4_copyFrom_42 ?_
  refine go_aload_n (y := mX4_copyFrom) (pc := 43) dX4_copyFrom_43 rfl rfl ?_
  refine go_getR (y := mX4_copyFrom) (pc := 44) dX4_copyFrom_44 fl_X4_18 (ch_sh hc 5 (by decide)) rfl (ch_z (r := 5) hc (by decide)) ?_
  refine go_iconst (y := mX4_copyFrom) (pc := 47) dX4_copyFrom_47 ?_
  refine go_bipush (y := mX4_copyFrom) (pc := 48) dX4_copyFrom_48 (by decide) ?_
  refine go_ccopy (y := mX4_copyFrom) (pc := 50) (r := 8) (k := 16) dX4_copyFrom_50 ml_X4_31 hc ho hne (by decide) (fun _ => rfl) rfl (by decide) (by decide) (by decide) (by decide) (Nat.le_of_ble_eq_true rfl) ?_
  refine go_aload_n (y := mX4_copyFrom) (pc := 53) dX4_copyFrom_53 rfl rfl ?_
  refine go_getR (y := mX4_copyFrom) (pc := 54) dX4_copyFrom_54 fl_X4_21 (ch_sh ho 5 (by decide)) rfl (ch_z (r := 5) ho (by decide)) ?_
  refine go_iconst (y := mX4_copyFrom) (pc := 57) dX4_copyFrom_57 ?_
  refine go_aload_n (y := mX4_copyFrom) (pc := 58) dX4_copyFrom_58 rfl rfl ?_
  refine go_getR (y := mX4_copyFrom) (pc := 59) dX4_copyFrom_59 fl_X4_21 (ch_sh hc 5 (by decide)) rfl (ch_z (r := 5) hc (by decide)) ?_
  refine go_iconst (y := mX4_copyFrom) (pc := 62) dX4_copyFrom_62 ?_
  refine go_bipush (y := mX4_copyFrom) (pc := 63) dX4_copyFrom_63 (by decide) ?_
  refine go_ccopy (y := mX4_copyFrom) (pc := 65) (r := 9) (k := 16) dX4_copyFrom_65 ml_X4_31 hc ho hne (by decide) (fun _ => rfl) rfl (by decide) (by decide) (by decide) (by decide) (Nat.le_of_ble_eq_true rfl) ?_
  refine go_aload_n (y := mX4_copyFrom) (pc := 68) dX4_copyFrom_68 rfl rfl ?_
  refine go_getR (y := mX4_copyFrom) (pc := 69) dX4_copyFrom_69 fl_X4_24 (ch_sh ho 5 (by decide)) rfl (ch_z (r := 5) ho (by decide)) ?_
  refine go_iconst (y := mX4_copyFrom) (pc := 72) dX4_copyFrom_72 ?_
  refine go_aload_n (y := mX4_copyFrom) (pc := 73) dX4_copyFrom_73 rfl rfl ?_
  refine go_getR (y := mX4_copyFrom) (pc := 74) dX4_copyFrom_74 fl_X4_24 (ch_sh hc 5 (by decide)) rfl (ch_z (r := 5) hc (by decide)) ?_
  refine go_iconst (y := mX4_copyFrom) (pc := 77) dX4_copyFrom_77 ?_
  refine go_sipush (y := mX4_copyFrom) (pc := 78) dX4_copyFrom_78 (by decide) ?_
  refine go_ccopy (y := mX4_copyFrom) (pc := 81) (r := 10) (k := 192) dX4_copyFrom_81 ml_X4_31 hc ho hne (by decide) (fun _ => rfl) rfl (by decide) (by decide) (by decide) (by decide) (Nat.le_of_ble_eq_true rfl) ?_
  refine go_return (y := mX4_copyFrom) (pc := 84) dX4_copyFrom_84 rfl ?_
  exact K
set_option maxRecDepth 8000 in
set_option maxHeartbeats 4000000 in
theorem c_placeOf {c : Nat} (hc : is_ch c) {σ μ : Mem} {m : Int} (hm : rng m) (h0 : 0 ≤ σ 11 0) (h12 : σ 11 0 ≤ 12) {Q : Option Value → Mem → Prop} {X : String → Mem → Prop} (K : ∀ v, v = plc σ m → -1 ≤ v ∧ v < σ 11 0 → Q (some (.int (iI v))) (put c σ μ)) : mt 276 0 0 0 mX5_placeOf [.ref (c + 11), .int (iI m)] Q X (put c σ μ) := by
  show go 276 0 0 0 mX5_placeOf Q X 0 [.ref (c + 11), .int (iI m), .null] [] _
  have loop : ∀ (n k : Nat), (k : Int) + n = σ 11 0 → (∀ i, i < k → ¬ σ 12 i = m) → go 276 0 0 0 mX5_placeOf Q X 2 [.ref (c + 11), .int (iI m), .int (iI (k : Nat))] [] (put c σ μ) := by
    intro n
    induction n using Nat.strongRecOn with
    | _ n ih =>
      intro k hk hn
      refine go_iload_n (y := mX5_placeOf) (pc := 2) dX5_placeOf_2 rfl rfl ?_
      refine go_aload_n (y := mX5_placeOf) (pc := 3) dX5_placeOf_3 rfl rfl ?_
      refine go_cget (y := mX5_placeOf) (pc := 4) (r := 11) dX5_placeOf_4 fl_X5_21 hc (by decide) rfl rfl (by decide) (fun r4 => ?_)
      refine go_icmp_ge (y := mX5_placeOf) (pc := 7) (tgt := 28) dX5_placeOf_7 (by decide) (by omega) (by omega) (fun h7 => ?_) (fun h7 => ?_)
      · skip
        refine go_iconst (y := mX5_placeOf) (pc := 28) dX5_placeOf_28 ?_
        refine go_ireturn (y := mX5_placeOf) (pc := 29) dX5_placeOf_29 rfl ?_
        exact K _ (fnd_0 (fun i hi => hn i (by omega))).symm (by omega)
      · skip
        refine go_aload_n (y := mX5_placeOf) (pc := 10) dX5_placeOf_10 rfl rfl ?_
        refine go_getR (y := mX5_placeOf) (pc := 11) dX5_placeOf_11 fl_X5_9 (ch_sh hc 11 (by decide)) rfl (ch_z (r := 11) hc (by decide)) ?_
        refine go_iload_n (y := mX5_placeOf) (pc := 14) dX5_placeOf_14 rfl rfl ?_
        refine go_cial (y := mX5_placeOf) (pc := 15) (r := 12) (k := k) dX5_placeOf_15 hc (by decide) rfl (by decide) rfl (by omega) (by decide) (fun r15 => ?_)
        refine go_iload_n (y := mX5_placeOf) (pc := 16) dX5_placeOf_16 rfl rfl ?_
        refine go_icmp_ne (y := mX5_placeOf) (pc := 17) (tgt := 22) dX5_placeOf_17 (by decide) (by omega) (by omega) (fun h17 => ?_) (fun h17 => ?_)
        · skip
          refine go_iinc (y := mX5_placeOf) (pc := 22) dX5_placeOf_22 rfl (by decide) ?_
          refine go_goto (y := mX5_placeOf) (pc := 25) (tgt := 2) dX5_placeOf_25 (by decide) ?_
          exact ih (n - 1) (by omega) (k + 1) (by omega) (lt_s hn h17)
        · skip
          refine go_iload_n (y := mX5_placeOf) (pc := 20) dX5_placeOf_20 rfl rfl ?_
          refine go_ireturn (y := mX5_placeOf) (pc := 21) dX5_placeOf_21 rfl ?_
          exact K _ (fnd_1 (by omega) h17 hn).symm (by omega)
  refine go_iconst (y := mX5_placeOf) (pc := 0) dX5_placeOf_0 ?_
  refine go_istore_n (y := mX5_placeOf) (pc := 1) dX5_placeOf_1 rfl (by decide) ?_
  exact loop (σ 11 0).toNat 0 (by omega) lt_0
set_option maxRecDepth 8000 in
set_option maxHeartbeats 4000000 in
theorem c_add {c : Nat} (hc : is_ch c) {σ μ : Mem} {m q : Int} (hm : rng m) (hq : rng q) {d : Int} (hd : rng d) (h0 : 0 ≤ σ 11 0) (h12 : σ 11 0 < 12) {Q : Option Value → Mem → Prop} {X : String → Mem → Prop} (K : Q (some (.int (iI (σ 11 0)))) (put c (rad σ m q d) μ)) : mt 276 0 0 0 mX5_add [.ref (c + 11), .int (iI m), .int (iI q), .int (iI d)] Q X (put c σ μ) := by
  show go 276 0 0 0 mX5_add Q X 0 [.ref (c + 11), .int (iI m), .int (iI q), .int (iI d), .null] [] _
  refine go_aload_n (y := mX5_add) (pc := 0) dX5_add_0 rfl rfl ?_
  refine go_cget (y := mX5_add) (pc := 1) (r := 11) dX5_add_1 fl_X5_21 hc (by decide) rfl rfl (by decide) (fun r1 => ?_)
  refine go_top (b := σ 11 0) (rfl) (fun t1 => ?_)
  refine go_istore (y := mX5_add) (pc := 4) dX5_add_4 (by decide) ?_
  refine go_iload (y := mX5_add) (pc := 6) dX5_add_6 rfl ?_
  refine go_bipush (y := mX5_add) (pc := 8) dX5_add_8 (by decide) ?_
  refine go_icmp_ge (y := mX5_add) (pc := 10) (tgt := 47) dX5_add_10 (by decide) (by omega) (by omega) (fun h10 => ?_) (fun h10 => ?_)
  · skip
    exact absurd h10 (by omega)
  · skip
    refine go_aload_n (y := mX5_add) (pc := 13) dX5_add_13 rfl rfl ?_
    refine go_getR (y := mX5_add) (pc := 14) dX5_add_14 fl_X5_9 (ch_sh hc 11 (by decide)) rfl (ch_z (r := 11) hc (by decide)) ?_
    refine go_iload (y := mX5_add) (pc := 17) dX5_add_17 rfl ?_
    refine go_iload_n (y := mX5_add) (pc := 19) dX5_add_19 rfl rfl ?_
    refine go_cias (y := mX5_add) (pc := 20) (r := 12) (k := ((σ 11 0).toNat)) dX5_add_20 hc (by decide) rfl (by decide) (by omega) (by omega) (by decide) (by omega) ?_
    refine go_aload_n (y := mX5_add) (pc := 21) dX5_add_21 rfl rfl ?_
    refine go_getR (y := mX5_add) (pc := 22) dX5_add_22 fl_X5_15 (ch_sh hc 11 (by decide)) rfl (ch_z (r := 11) hc (by decide)) ?_
    refine go_iload (y := mX5_add) (pc := 25) dX5_add_25 rfl ?_
    refine go_iload_n (y := mX5_add) (pc := 27) dX5_add_27 rfl rfl ?_
    refine go_cias (y := mX5_add) (pc := 28) (r := 13) (k := ((σ 11 0).toNat)) dX5_add_28 hc (by decide) rfl (by decide) (by omega) (by omega) (by decide) (by omega) ?_
    refine go_aload_n (y := mX5_add) (pc := 29) dX5_add_29 rfl rfl ?_
    refine go_getR (y := mX5_add) (pc := 30) dX5_add_30 fl_X5_18 (ch_sh hc 11 (by decide)) rfl (ch_z (r := 11) hc (by decide)) ?_
    refine go_iload (y := mX5_add) (pc := 33) dX5_add_33 rfl ?_
    refine go_iload_n (y := mX5_add) (pc := 35) dX5_add_35 rfl rfl ?_
    refine go_cias (y := mX5_add) (pc := 36) (r := 14) (k := ((σ 11 0).toNat)) dX5_add_36 hc (by decide) rfl (by decide) (by omega) (by omega) (by decide) (by omega) ?_
    refine go_aload_n (y := mX5_add) (pc := 37) dX5_add_37 rfl rfl ?_
    refine go_dup (y := mX5_add) (pc := 38) dX5_add_38 rfl ?_
    refine go_cget (y := mX5_add) (pc := 39) (r := 11) dX5_add_39 fl_X5_21 hc (by decide) rfl rfl (by decide) (fun r39 => ?_)
    refine go_top (b := σ 11 0) (by rw [wr_na (by decide), wr_na (by decide), wr_na (by decide)]) (fun t39 => ?_)
    refine go_iconst (y := mX5_add) (pc := 42) dX5_add_42 ?_
    refine go_iadd (y := mX5_add) (pc := 43) dX5_add_43 ?_
    refine go_cput (y := mX5_add) (pc := 44) (r := 11) dX5_add_44 fp_X5_21 hc (by decide) rfl rfl (by decide) (by omega) ?_
    refine go_iload (y := mX5_add) (pc := 47) dX5_add_47 rfl ?_
    refine go_ireturn (y := mX5_add) (pc := 49) dX5_add_49 rfl ?_
    exact K
set_option maxRecDepth 8000 in
set_option maxHeartbeats 4000000 in
theorem c_move {c : Nat} (hc : is_ch c) {σ μ : Mem} {i e : Nat} (hi : i < 12) (he : e < 12) {Q : Option Value → Mem → Prop} {X : String → Mem → Prop} (K : Q none (put c (mvr σ i e) μ)) : mt 276 0 0 0 mX5_move [.ref (c + 11), .int (iI (i : Nat)), .int (iI (e : Nat))] Q X (put c σ μ) := by
  show go 276 0 0 0 mX5_move Q X 0 [.ref (c + 11), .int (iI (i : Nat)), .int (iI (e : Nat))] [] _
  refine go_aload_n (y := mX5_move) (pc := 0) dX5_move_0 rfl rfl ?_
  refine go_getR (y := mX5_move) (pc := 1) dX5_move_1 fl_X5_9 (ch_sh hc 11 (by decide)) rfl (ch_z (r := 11) hc (by decide)) ?_
  refine go_iload_n (y := mX5_move) (pc := 4) dX5_move_4 rfl rfl ?_
  refine go_aload_n (y := mX5_move) (pc := 5) dX5_move_5 rfl rfl ?_
  refine go_getR (y := mX5_move) (pc := 6) dX5_move_6 fl_X5_9 (ch_sh hc 11 (by decide)) rfl (ch_z (r := 11) hc (by decide)) ?_
  refine go_iload_n (y := mX5_move) (pc := 9) dX5_move_9 rfl rfl ?_
  refine go_cial (y := mX5_move) (pc := 10) (r := 12) (k := i) dX5_move_10 hc (by decide) rfl (by decide) rfl (by omega) (by decide) (fun r10 => ?_)
  refine go_cias (y := mX5_move) (pc := 11) (r := 12) (k := e) dX5_move_11 hc (by decide) rfl (by decide) rfl (by omega) (by decide) (by omega) ?_
  refine go_aload_n (y := mX5_move) (pc := 12) dX5_move_12 rfl rfl ?_
  refine go_getR (y := mX5_move) (pc := 13) dX5_move_13 fl_X5_15 (ch_sh hc 11 (by decide)) rfl (ch_z (r := 11) hc (by decide)) ?_
  refine go_iload_n (y := mX5_move) (pc := 16) dX5_move_16 rfl rfl ?_
  refine go_aload_n (y := mX5_move) (pc := 17) dX5_move_17 rfl rfl ?_
  refine go_getR (y := mX5_move) (pc := 18) dX5_move_18 fl_X5_15 (ch_sh hc 11 (by decide)) rfl (ch_z (r := 11) hc (by decide)) ?_
  refine go_iload_n (y := mX5_move) (pc := 21) dX5_move_21 rfl rfl ?_
  refine go_cial (y := mX5_move) (pc := 22) (r := 13) (k := i) dX5_move_22 hc (by decide) rfl (by decide) rfl (by omega) (by decide) (fun r22 => ?_)
  refine go_cias (y := mX5_move) (pc := 23) (r := 13) (k := e) dX5_move_23 hc (by decide) rfl (by decide) rfl (by omega) (by decide) (by omega) ?_
  refine go_aload_n (y := mX5_move) (pc := 24) dX5_move_24 rfl rfl ?_
  refine go_getR (y := mX5_move) (pc := 25) dX5_move_25 fl_X5_18 (ch_sh hc 11 (by decide)) rfl (ch_z (r := 11) hc (by decide)) ?_
  refine go_iload_n (y := mX5_move) (pc := 28) dX5_move_28 rfl rfl ?_
  refine go_aload_n (y := mX5_move) (pc := 29) dX5_move_29 rfl rfl ?_
  refine go_getR (y := mX5_move) (pc := 30) dX5_move_30 fl_X5_18 (ch_sh hc 11 (by decide)) rfl (ch_z (r := 11) hc (by decide)) ?_
  refine go_iload_n (y := mX5_move) (pc := 33) dX5_move_33 rfl rfl ?_
  refine go_cial (y := mX5_move) (pc := 34) (r := 14) (k := i) dX5_move_34 hc (by decide) rfl (by decide) rfl (by omega) (by decide) (fun r34 => ?_)
  refine go_cias (y := mX5_move) (pc := 35) (r := 14) (k := e) dX5_move_35 hc (by decide) rfl (by decide) rfl (by omega) (by decide) (by omega) ?_
  refine go_return (y := mX5_move) (pc := 36) dX5_move_36 rfl ?_
  exact K
set_option maxRecDepth 8000 in
set_option maxHeartbeats 4000000 in
theorem c_removeAt {c : Nat} (hc : is_ch c) {σ μ : Mem} {p : Nat} (hp : (p : Int) < σ 11 0) (h12 : σ 11 0 ≤ 12) {Q : Option Value → Mem → Prop} {X : String → Mem → Prop} (K : Q none (put c (rmv σ p) μ)) : mt 276 1 0 0 mX5_removeAt [.ref (c + 11), .int (iI (p : Nat))] Q X (put c σ μ) := by
  show go 276 1 0 0 mX5_removeAt Q X 0 [.ref (c + 11), .int (iI (p : Nat)), .null] [] _
  have loop : ∀ (n k : Nat), (p : Int) + 1 + k + n = σ 11 0 → go 276 1 0 0 mX5_removeAt Q X 4 [.ref (c + 11), .int (iI (p : Nat)), .int (iI (p + 1 + k : Nat))] [] (put c (rmk σ p k) μ) := by
    intro n
    induction n using Nat.strongRecOn with
    | _ n ih =>
      intro k hk
      refine go_iload_n (y := mX5_removeAt) (pc := 4) dX5_removeAt_4 rfl rfl ?_
      refine go_aload_n (y := mX5_removeAt) (pc := 5) dX5_removeAt_5 rfl rfl ?_
      refine go_cget (y := mX5_removeAt) (pc := 6) (r := 11) dX5_removeAt_6 fl_X5_21 hc (by decide) rfl rfl (by decide) (fun r6 => ?_)
      refine go_top (b := σ 11 0) (rmk_o (by decide) k) (fun t6 => ?_)
      refine go_icmp_ge (y := mX5_removeAt) (pc := 9) (tgt := 26) dX5_removeAt_9 (by decide) (by omega) (by omega) (fun h9 => ?_) (fun h9 => ?_)
      · skip
        refine go_aload_n (y := mX5_removeAt) (pc := 26) dX5_removeAt_26 rfl rfl ?_
        refine go_dup (y := mX5_removeAt) (pc := 27) dX5_removeAt_27 rfl ?_
        refine go_cget (y := mX5_removeAt) (pc := 28) (r := 11) dX5_removeAt_28 fl_X5_21 hc (by decide) rfl rfl (by decide) (fun r28 => ?_)
        refine go_top (b := σ 11 0) (rmk_o (by decide) k) (fun t28 => ?_)
        refine go_iconst (y := mX5_removeAt) (pc := 31) dX5_removeAt_31 ?_
        refine go_isub (y := mX5_removeAt) (pc := 32) dX5_removeAt_32 ?_
        refine go_cput (y := mX5_removeAt) (pc := 33) (r := 11) dX5_removeAt_33 fp_X5_21 hc (by decide) rfl rfl (by decide) (by omega) ?_
        refine go_return (y := mX5_removeAt) (pc := 36) dX5_removeAt_36 rfl ?_
        have e : k = (σ 11 0).toNat - (p + 1) := by omega
        subst e
        exact K
      · skip
        refine go_aload_n (y := mX5_removeAt) (pc := 12) dX5_removeAt_12 rfl rfl ?_
        refine go_iload_n (y := mX5_removeAt) (pc := 13) dX5_removeAt_13 rfl rfl ?_
        refine go_iload_n (y := mX5_removeAt) (pc := 14) dX5_removeAt_14 rfl rfl ?_
        refine go_iconst (y := mX5_removeAt) (pc := 15) dX5_removeAt_15 ?_
        refine go_isub (y := mX5_removeAt) (pc := 16) dX5_removeAt_16 ?_
        refine go_top (b := ((p + k : Nat) : Int)) (by omega) (fun t16 => ?_)
        refine go_callV2 (y := mX5_removeAt) (pc := 17) (y' := mX5_move) (kc2 := 0) (ks2 := 0) dX5_removeAt_17 ml_X5_31 ok_X5_move (ch_sh hc 11 (by decide)) ⟨_, _, rfl⟩ (ch_z (r := 11) hc (by decide)) ⟨rfl, rfl⟩ (by decide) (Nat.le_of_ble_eq_true rfl) rfl (c_move hc (i := (p + 1 + k)) (e := (p + k)) (by omega) (by omega) ?_)
        refine go_iinc (y := mX5_removeAt) (pc := 20) dX5_removeAt_20 rfl (by decide) ?_
        refine go_goto (y := mX5_removeAt) (pc := 23) (tgt := 4) dX5_removeAt_23 (by decide) ?_
        exact ih (n - 1) (by omega) (k + 1) (by omega)
  refine go_iload_n (y := mX5_removeAt) (pc := 0) dX5_removeAt_0 rfl rfl ?_
  refine go_iconst (y := mX5_removeAt) (pc := 1) dX5_removeAt_1 ?_
  refine go_iadd (y := mX5_removeAt) (pc := 2) dX5_removeAt_2 ?_
  refine go_istore_n (y := mX5_removeAt) (pc := 3) dX5_removeAt_3 rfl (by decide) ?_
  exact loop ((σ 11 0).toNat - (p + 1)) 0 (by omega)
set_option maxRecDepth 8000 in
set_option maxHeartbeats 4000000 in
theorem c_removeAbout {c : Nat} (hc : is_ch c) {σ μ : Mem} {q : Int} (hq : rng q) (h0 : 0 ≤ σ 11 0) (h12 : σ 11 0 ≤ 12) {Q : Option Value → Mem → Prop} {X : String → Mem → Prop} (K : Q (some (.int (iI (σ 11 0 - cab σ q 11 0)))) (put c (cab σ q) μ)) : mt 276 1 0 0 mX5_removeAbout [.ref (c + 11), .int (iI q)] Q X (put c σ μ) := by
  show go 276 1 0 0 mX5_removeAbout Q X 0 [.ref (c + 11), .int (iI q), .null, .null] [] _
  have loop : ∀ (n k : Nat), (k : Int) + n = σ 11 0 → go 276 1 0 0 mX5_removeAbout Q X 4 [.ref (c + 11), .int (iI q), .int (iI ((cab_k σ q k).2 : Nat)), .int (iI (k : Nat))] [] (put c (cab_k σ q k).1 μ) := by
    intro n
    induction n using Nat.strongRecOn with
    | _ n ih =>
      intro k hk
      have hle := cab_k_le σ q k
      refine go_iload_n (y := mX5_removeAbout) (pc := 4) dX5_removeAbout_4 rfl rfl ?_
      refine go_aload_n (y := mX5_removeAbout) (pc := 5) dX5_removeAbout_5 rfl rfl ?_
      refine go_cget (y := mX5_removeAbout) (pc := 6) (r := 11) dX5_removeAbout_6 fl_X5_21 hc (by decide) rfl rfl (by decide) (fun r6 => ?_)
      refine go_top (b := σ 11 0) (cab_k_o (by decide) k) (fun t6 => ?_)
      refine go_icmp_ge (y := mX5_removeAbout) (pc := 9) (tgt := 37) dX5_removeAbout_9 (by decide) (by omega) (by omega) (fun h9 => ?_) (fun h9 => ?_)
      · skip
        refine go_aload_n (y := mX5_removeAbout) (pc := 37) dX5_removeAbout_37 rfl rfl ?_
        refine go_cget (y := mX5_removeAbout) (pc := 38) (r := 11) dX5_removeAbout_38 fl_X5_21 hc (by decide) rfl rfl (by decide) (fun r38 => ?_)
        refine go_top (b := σ 11 0) (cab_k_o (by decide) k) (fun t38 => ?_)
        refine go_iload_n (y := mX5_removeAbout) (pc := 41) dX5_removeAbout_41 rfl rfl ?_
        refine go_isub (y := mX5_removeAbout) (pc := 42) dX5_removeAbout_42 ?_
        refine go_istore_n (y := mX5_removeAbout) (pc := 43) dX5_removeAbout_43 rfl (by decide) ?_
        refine go_aload_n (y := mX5_removeAbout) (pc := 44) dX5_removeAbout_44 rfl rfl ?_
        refine go_iload_n (y := mX5_removeAbout) (pc := 45) dX5_removeAbout_45 rfl rfl ?_
        refine go_cput (y := mX5_removeAbout) (pc := 46) (r := 11) dX5_removeAbout_46 fp_X5_21 hc (by decide) rfl rfl (by decide) (by omega) ?_
        refine go_iload_n (y := mX5_removeAbout) (pc := 49) dX5_removeAbout_49 rfl rfl ?_
        refine go_ireturn (y := mX5_removeAbout) (pc := 50) dX5_removeAbout_50 rfl ?_
        have e : k = (σ 11 0).toNat := by omega
        subst e
        exact K
      · skip
        refine go_aload_n (y := mX5_removeAbout) (pc := 12) dX5_removeAbout_12 rfl rfl ?_
        refine go_getR (y := mX5_removeAbout) (pc := 13) dX5_removeAbout_13 fl_X5_15 (ch_sh hc 11 (by decide)) rfl (ch_z (r := 11) hc (by decide)) ?_
        refine go_iload_n (y := mX5_removeAbout) (pc := 16) dX5_removeAbout_16 rfl rfl ?_
        refine go_cial (y := mX5_removeAbout) (pc := 17) (r := 13) (k := k) dX5_removeAbout_17 hc (by decide) rfl (by decide) rfl (by omega) (by decide) (fun r17 => ?_)
        refine go_iload_n (y := mX5_removeAbout) (pc := 18) dX5_removeAbout_18 rfl rfl ?_
        refine go_icmp_eq (y := mX5_removeAbout) (pc := 19) (tgt := 31) dX5_removeAbout_19 (by decide) (by omega) (by omega) (fun h19 => ?_) (fun h19 => ?_)
        · skip
          refine go_iinc (y := mX5_removeAbout) (pc := 31) dX5_removeAbout_31 rfl (by decide) ?_
          refine go_goto (y := mX5_removeAbout) (pc := 34) (tgt := 4) dX5_removeAbout_34 (by decide) ?_
          have e : cab_k σ q (k + 1) = cab_k σ q k := by rw [cab_k, if_neg (fun w => w h19)]
          have h := ih (n - 1) (by omega) (k + 1) (by omega)
          rw [e] at h
          exact h
        · skip
          refine go_aload_n (y := mX5_removeAbout) (pc := 22) dX5_removeAbout_22 rfl rfl ?_
          refine go_iload_n (y := mX5_removeAbout) (pc := 23) dX5_removeAbout_23 rfl rfl ?_
          refine go_iload_n (y := mX5_removeAbout) (pc := 24) dX5_removeAbout_24 rfl rfl ?_
          refine go_callV2 (y := mX5_removeAbout) (pc := 25) (y' := mX5_move) (kc2 := 0) (ks2 := 0) dX5_removeAbout_25 ml_X5_31 ok_X5_move (ch_sh hc 11 (by decide)) ⟨_, _, rfl⟩ (ch_z (r := 11) hc (by decide)) ⟨rfl, rfl⟩ (by decide) (Nat.le_of_ble_eq_true rfl) rfl (c_move hc (i := k) (e := ((cab_k σ q k).2)) (by omega) (by omega) ?_)
          refine go_iinc (y := mX5_removeAbout) (pc := 28) dX5_removeAbout_28 rfl (by decide) ?_
          refine go_iinc (y := mX5_removeAbout) (pc := 31) dX5_removeAbout_31 rfl (by decide) ?_
          refine go_goto (y := mX5_removeAbout) (pc := 34) (tgt := 4) dX5_removeAbout_34 (by decide) ?_
          have e : cab_k σ q (k + 1) = (mvr (cab_k σ q k).1 k (cab_k σ q k).2, (cab_k σ q k).2 + 1) := by rw [cab_k, if_pos h19]
          have h := ih (n - 1) (by omega) (k + 1) (by omega)
          rw [e] at h
          exact h
  refine go_iconst (y := mX5_removeAbout) (pc := 0) dX5_removeAbout_0 ?_
  refine go_istore_n (y := mX5_removeAbout) (pc := 1) dX5_removeAbout_1 rfl (by decide) ?_
  refine go_iconst (y := mX5_removeAbout) (pc := 2) dX5_removeAbout_2 ?_
  refine go_istore_n (y := mX5_removeAbout) (pc := 3) dX5_removeAbout_3 rfl (by decide) ?_
  exact loop (σ 11 0).toNat 0 (by omega)
set_option maxRecDepth 8000 in
set_option maxHeartbeats 4000000 in
theorem c_QcopyFrom {c o : Nat} (hc : is_ch c) (ho : is_ch o) (hne : o ≠ c) {σ μ : Mem} {Q : Option Value → Mem → Prop} {X : String → Mem → Prop} (K : Q none (put c (cpr (vw o μ) (cpr (vw o μ) (cpr (vw o μ) (wr σ 11 0 (vw o μ 11 0)) 12 12) 13 12) 14 12) μ)) : mt 276 1 0 0 mX5_copyFrom [.ref (c + 11), .ref (o + 11)] Q X (put c σ μ) := by
  show go 276 1 0 0 mX5_copyFrom Q X 0 [.ref (c + 11), .ref (o + 11)] [] _
  refine go_aload_n (y := mX5_copyFrom) (pc := 0) dX5_copyFrom_0 rfl rfl ?_
  refine go_aload_n (y := mX5_copyFrom) (pc := 1) dX5_copyFrom_1 rfl rfl ?_
  refine go_oget (y := mX5_copyFrom) (pc := 2) (r := 11) dX5_copyFrom_2 fl_X5_21 hc ho hne (by decide) rfl rfl (by decide) (fun r2 => ?_)
  refine go_cput (y := mX5_copyFrom) (pc := 5) (r := 11) dX5_copyFrom_5 fp_X5_21 hc (by decide) rfl rfl (by decide) (by omega) ?_
  refine go_aload_n (y := mX5_copyFrom) (pc := 8) dX5_copyFrom_8 rfl rfl ?_
  refine go_getR (y := mX5_copyFrom) (pc := 9) dX5_copyFrom_9 fl_X5_9 (ch_sh ho 11 (by decide)) rfl (ch_z (r := 11) ho (by decide)) ?_
  refine go_iconst (y := mX5_copyFrom) (pc := 12) dX5_copyFrom_12 ?_
  refine go_aload_n (y := mX5_copyFrom) (pc := 13) dX5_copyFrom_13 rfl rfl ?_
  refine go_getR (y := mX5_copyFrom) (pc := 14) dX5_copyFrom_14 fl_X5_9 (ch_sh hc 11 (by decide)) rfl (ch_z (r := 11) hc (by decide)) ?_
  refine go_iconst (y := mX5_copyFrom) (pc := 17) dX5_copyFrom_17 ?_
  refine go_bipush (y := mX5_copyFrom) (pc := 18) dX5_copyFrom_18 (by decide) ?_
  refine go_ccopy (y := mX5_copyFrom) (pc := 20) (r := 12) (k := 12) dX5_copyFrom_20 ml_X5_25 hc ho hne (by decide) (fun _ => rfl) rfl (by decide) (by decide) (by decide) (by decide) (Nat.le_of_ble_eq_true rfl) ?_
  refine go_aload_n (y := mX5_copyFrom) (pc := 23) dX5_copyFrom_23 rfl rfl ?_
  refine go_getR (y := mX5_copyFrom) (pc := 24) dX5_copyFrom_24 fl_X5_15 (ch_sh ho 11 (by decide)) rfl (ch_z (r := 11) ho (by decide)) ?_
  refine go_iconst (y := mX5_copyFrom) (pc := 27) dX5_copyFrom_27 ?_
  refine go_aload_n (y := mX5_copyFrom) (pc := 28) dX5_copyFrom_28 rfl rfl ?_
  refine go_getR (y := mX5_copyFrom) (pc := 29) dX5_copyFrom_29 fl_X5_15 (ch_sh hc 11 (by decide)) rfl (ch_z (r := 11) hc (by decide)) ?_
  refine go_iconst (y := mX5_copyFrom) (pc := 32) dX5_copyFrom_32 ?_
  refine go_bipush (y := mX5_copyFrom) (pc := 33) dX5_copyFrom_33 (by decide) ?_
  refine go_ccopy (y := mX5_copyFrom) (pc := 35) (r := 13) (k := 12) dX5_copyFrom_35 ml_X5_25 hc ho hne (by decide) (fun _ => rfl) rfl (by decide) (by decide) (by decide) (by decide) (Nat.le_of_ble_eq_true rfl) ?_
  refine go_aload_n (y := mX5_copyFrom) (pc := 38) dX5_copyFrom_38 rfl rfl ?_
  refine go_getR (y := mX5_copyFrom) (pc := 39) dX5_copyFrom_39 fl_X5_18 (ch_sh ho 11 (by decide)) rfl (ch_z (r := 11) ho (by decide)) ?_
  refine go_iconst (y := mX5_copyFrom) (pc := 42) dX5_copyFrom_42 ?_
  refine go_aload_n (y := mX5_copyFrom) (pc := 43) dX5_copyFrom_43 rfl rfl ?_
  refine go_getR (y := mX5_copyFrom) (pc := 44) dX5_copyFrom_44 fl_X5_18 (ch_sh hc 11 (by decide)) rfl (ch_z (r := 11) hc (by decide)) ?_
  refine go_iconst (y := mX5_copyFrom) (pc := 47) dX5_copyFrom_47 ?_
  refine go_bipush (y := mX5_copyFrom) (pc := 48) dX5_copyFrom_48 (by decide) ?_
  refine go_ccopy (y := mX5_copyFrom) (pc := 50) (r := 14) (k := 12) dX5_copyFrom_50 ml_X5_25 hc ho hne (by decide) (fun _ => rfl) rfl (by decide) (by decide) (by decide) (by decide) (Nat.le_of_ble_eq_true rfl) ?_
  refine go_return (y := mX5_copyFrom) (pc := 53) dX5_copyFrom_53 rfl ?_
  exact K
