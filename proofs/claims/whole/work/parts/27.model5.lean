/-! THE MODEL: changes -/
set_option maxRecDepth 8000 in
set_option maxHeartbeats 4000000 in
theorem m_keeps {σ μ : Mem} {ν : Nat → Int} (h0 : 0 ≤ σ 0 6) (h8 : σ 0 6 ≤ 8) {Q : Option Value → Mem → Prop} {X : String → Mem → Prop} (K : Q none (md (kps σ ν) ν μ)) : mt 289 0 0 0 mX11_keeps [.ref 276] Q X (md σ ν μ) := by
  show go 289 0 0 0 mX11_keeps Q X 0 [.ref 276, .null] [] _
  have loop2 : ∀ (τ : Mem), τ = kp0 σ → 0 ≤ τ 0 6 → τ 0 6 ≤ 7 → ∀ (n k : Nat), k + n = 418 → go 289 0 0 0 mX11_keeps Q X 52 [.ref 276, .int (iI (k : Nat))] [] (md (kp2 τ ν (τ 0 6).toNat k) ν μ) := by
    intro τ hτ t0 t7
    obtain ⟨u, hu⟩ := Int.eq_ofNat_of_zero_le t0
    have eu : (τ 0 6).toNat = u := by omega
    have o6 : ∀ k, kp2 τ ν u k 0 6 = (u : Int) := fun k => (if_neg (by omega)).trans hu
    rw [eu]
    intro n
    induction n using Nat.strongRecOn with
    | _ n ih =>
      intro k hk
      have ih' := ih (n - 1)
      refine go_iload_n (y := mX11_keeps) (pc := 52) dX11_keeps_52 rfl rfl ?_
      refine go_sipush (y := mX11_keeps) (pc := 53) dX11_keeps_53 (by decide) ?_
      refine go_icmp_ge (y := mX11_keeps) (pc := 56) (tgt := 86) dX11_keeps_56 (by decide) (by omega) (by omega) (fun h56 => ?_) (fun h56 => ?_)
      · skip
        refine go_aload_n (y := mX11_keeps) (pc := 86) dX11_keeps_86 rfl rfl ?_
        refine go_dup (y := mX11_keeps) (pc := 87) dX11_keeps_87 rfl ?_
        refine go_mget (y := mX11_keeps) (pc := 88) dX11_keeps_88 fl_X11_237 rfl rfl (by decide) (fun r88 => ?_)
        refine go_top (b := ((u : Nat) : Int)) (o6 k) (fun t88 => ?_)
        refine go_iconst (y := mX11_keeps) (pc := 91) dX11_keeps_91 ?_
        refine go_iadd (y := mX11_keeps) (pc := 92) dX11_keeps_92 ?_
        refine go_mput (y := mX11_keeps) (pc := 93) dX11_keeps_93 fp_X11_237 rfl rfl (by decide) (by omega) ?_
        refine go_return (y := mX11_keeps) (pc := 96) dX11_keeps_96 rfl ?_
        have e : k = 418 := by omega
        subst e
        unfold kps at K
        rw [← hτ, eu, hu] at K
        exact K
      · skip
        refine go_aload_n (y := mX11_keeps) (pc := 59) dX11_keeps_59 rfl rfl ?_
        refine go_mref (y := mX11_keeps) (pc := 60) dX11_keeps_60 fl_X11_19 rfl rfl (by decide) ?_
        refine go_sipush (y := mX11_keeps) (pc := 63) dX11_keeps_63 (by decide) ?_
        refine go_aload_n (y := mX11_keeps) (pc := 66) dX11_keeps_66 rfl rfl ?_
        refine go_mget (y := mX11_keeps) (pc := 67) dX11_keeps_67 fl_X11_237 rfl rfl (by decide) (fun r67 => ?_)
        refine go_top (b := ((u : Nat) : Int)) (o6 k) (fun t67 => ?_)
        refine go_imul (y := mX11_keeps) (pc := 70) dX11_keeps_70 ?_
        refine go_iload_n (y := mX11_keeps) (pc := 71) dX11_keeps_71 rfl rfl ?_
        refine go_iadd (y := mX11_keeps) (pc := 72) dX11_keeps_72 ?_
        refine go_aload_n (y := mX11_keeps) (pc := 73) dX11_keeps_73 rfl rfl ?_
        refine go_mref (y := mX11_keeps) (pc := 74) dX11_keeps_74 fl_X11_7 rfl rfl (by decide) ?_
        refine go_iload_n (y := mX11_keeps) (pc := 77) dX11_keeps_77 rfl rfl ?_
        refine go_nial (y := mX11_keeps) (pc := 78) (k := k) dX11_keeps_78 (by decide) rfl (by omega) (fun r78 => ?_)
        refine go_mias (y := mX11_keeps) (pc := 79) (r := 4) (k := ((418 * u) + k)) dX11_keeps_79 (by decide) (by decide) rfl (by decide) (by omega) (by omega) (by decide) (by omega) ?_
        refine go_iinc (y := mX11_keeps) (pc := 80) dX11_keeps_80 rfl (by decide) ?_
        refine go_goto (y := mX11_keeps) (pc := 83) (tgt := 52) dX11_keeps_83 (by decide) ?_
        rw [kp2_s]
        exact ih' (by omega) (k + 1) (by omega)
  have loop1 : σ 0 6 = 8 → ∀ (n k : Nat), k + n = 2926 → go 289 0 0 0 mX11_keeps Q X 11 [.ref 276, .int (iI (k : Nat))] [] (md (kp1 σ k) ν μ) := by
    intro h6 n
    induction n using Nat.strongRecOn with
    | _ n ih =>
      intro k hk
      have ih' := ih (n - 1)
      have o6 : kp1 σ k 0 6 = 8 := (if_neg (by omega)).trans h6
      refine go_iload_n (y := mX11_keeps) (pc := 11) dX11_keeps_11 rfl rfl ?_
      refine go_sipush (y := mX11_keeps) (pc := 12) dX11_keeps_12 (by decide) ?_
      refine go_icmp_ge (y := mX11_keeps) (pc := 15) (tgt := 40) dX11_keeps_15 (by decide) (by omega) (by omega) (fun h15 => ?_) (fun h15 => ?_)
      · skip
        refine go_aload_n (y := mX11_keeps) (pc := 40) dX11_keeps_40 rfl rfl ?_
        refine go_dup (y := mX11_keeps) (pc := 41) dX11_keeps_41 rfl ?_
        refine go_mget (y := mX11_keeps) (pc := 42) dX11_keeps_42 fl_X11_237 rfl rfl (by decide) (fun r42 => ?_)
        refine go_top (b := 8) (o6) (fun t42 => ?_)
        refine go_iconst (y := mX11_keeps) (pc := 45) dX11_keeps_45 ?_
        refine go_isub (y := mX11_keeps) (pc := 46) dX11_keeps_46 ?_
        refine go_mput (y := mX11_keeps) (pc := 47) dX11_keeps_47 fp_X11_237 rfl rfl (by decide) (by omega) ?_
        refine go_iconst (y := mX11_keeps) (pc := 50) dX11_keeps_50 ?_
        refine go_istore_n (y := mX11_keeps) (pc := 51) dX11_keeps_51 rfl (by decide) ?_
        have e : k = 2926 := by omega
        subst e
        have hk0 : kp0 σ = wr (kp1 σ 2926) 0 6 7 := if_pos h6
        have h9 := loop2 (kp0 σ) rfl (by rw [hk0, wr_s]; decide) (by rw [hk0, wr_s]; decide) 418 0 rfl
        rw [kp2_0, hk0] at h9
        exact h9
      · skip
        refine go_aload_n (y := mX11_keeps) (pc := 18) dX11_keeps_18 rfl rfl ?_
        refine go_mref (y := mX11_keeps) (pc := 19) dX11_keeps_19 fl_X11_19 rfl rfl (by decide) ?_
        refine go_iload_n (y := mX11_keeps) (pc := 22) dX11_keeps_22 rfl rfl ?_
        refine go_aload_n (y := mX11_keeps) (pc := 23) dX11_keeps_23 rfl rfl ?_
        refine go_mref (y := mX11_keeps) (pc := 24) dX11_keeps_24 fl_X11_19 rfl rfl (by decide) ?_
        refine go_iload_n (y := mX11_keeps) (pc := 27) dX11_keeps_27 rfl rfl ?_
        refine go_sipush (y := mX11_keeps) (pc := 28) dX11_keeps_28 (by decide) ?_
        refine go_iadd (y := mX11_keeps) (pc := 31) dX11_keeps_31 ?_
        refine go_mial (y := mX11_keeps) (pc := 32) (r := 4) (k := (k + 418)) dX11_keeps_32 (by decide) (by decide) rfl (by decide) (by omega) (by omega) (by decide) (fun r32 => ?_)
        refine go_mias (y := mX11_keeps) (pc := 33) (r := 4) (k := k) dX11_keeps_33 (by decide) (by decide) rfl (by decide) rfl (by omega) (by decide) (by omega) ?_
        refine go_iinc (y := mX11_keeps) (pc := 34) dX11_keeps_34 rfl (by decide) ?_
        refine go_goto (y := mX11_keeps) (pc := 37) (tgt := 11) dX11_keeps_37 (by decide) ?_
        rw [kp1_s]
        exact ih' (by omega) (k + 1) (by omega)
  refine go_aload_n (y := mX11_keeps) (pc := 0) dX11_keeps_0 rfl rfl ?_
  refine go_mget (y := mX11_keeps) (pc := 1) dX11_keeps_1 fl_X11_237 rfl rfl (by decide) (fun r1 => ?_)
  refine go_bipush (y := mX11_keeps) (pc := 4) dX11_keeps_4 (by decide) ?_
  refine go_icmp_ne (y := mX11_keeps) (pc := 6) (tgt := 50) dX11_keeps_6 (by decide) (by omega) (by omega) (fun h6 => ?_) (fun h6 => ?_)
  · skip
    refine go_iconst (y := mX11_keeps) (pc := 50) dX11_keeps_50 ?_
    refine go_istore_n (y := mX11_keeps) (pc := 51) dX11_keeps_51 rfl (by decide) ?_
    have hk0 : kp0 σ = σ := if_neg h6
    have h9 := loop2 (kp0 σ) rfl (by rw [hk0]; exact h0) (by rw [hk0]; omega) 418 0 rfl
    rw [kp2_0, hk0] at h9
    exact h9
  · skip
    refine go_iconst (y := mX11_keeps) (pc := 9) dX11_keeps_9 ?_
    refine go_istore_n (y := mX11_keeps) (pc := 10) dX11_keeps_10 rfl (by decide) ?_
    have h9 := loop1 h6 2926 0 rfl
    rw [kp1_0] at h9
    exact h9
set_option maxRecDepth 8000 in
set_option maxHeartbeats 4000000 in
theorem m_changes {σ μ : Mem} {ν : Nat → Int} (h6 : 0 ≤ σ 0 6 ∧ σ 0 6 ≤ 8) {Q : Option Value → Mem → Prop} {X : String → Mem → Prop} (K : Q none (md (chg σ ν) ν μ)) : mt 289 1 0 0 mX11_changes [.ref 276] Q X (md σ ν μ) := by
  show go 289 1 0 0 mX11_changes Q X 0 [.ref 276] [] _
  unfold chg at K
  refine go_aload_n (y := mX11_changes) (pc := 0) dX11_changes_0 rfl rfl ?_
  refine go_mget (y := mX11_changes) (pc := 1) dX11_changes_1 fl_X11_335 rfl rfl (by decide) (fun r1 => ?_)
  refine go_if_ne (y := mX11_changes) (pc := 4) (tgt := 11) dX11_changes_4 (by decide) (by omega) (fun h4 => ?_) (fun h4 => ?_)
  · skip
    refine go_return (y := mX11_changes) (pc := 11) dX11_changes_11 rfl ?_
    rw [if_neg h4] at K
    exact K
  · skip
    rw [if_pos h4] at K
    refine go_aload_n (y := mX11_changes) (pc := 7) dX11_changes_7 rfl rfl ?_
    refine go_callV0 (y := mX11_changes) (pc := 8) (y' := mX11_keeps) (kc2 := 0) (ks2 := 0) dX11_changes_8 ml_X11_332 ok_X11_keeps (show shp 276 = _ from rfl) ⟨_, _, rfl⟩ (by decide) trivial (by decide) (Nat.le_of_ble_eq_true rfl) rfl (m_keeps (by omega) (by omega) ?_)
    refine go_return (y := mX11_changes) (pc := 11) dX11_changes_11 rfl ?_
    exact K
def t2 (r : Int) : Int := if r = 3 then 2 else r
section MCh
variable {S s σ μ : Mem} {ν : Nat → Int}
set_option maxRecDepth 8000 in
set_option maxHeartbeats 4000000 in
theorem m_proposing {m x : Int} (hm : rng m) (hx : rng x) (h7 : σ 0 7 = 0) (h6 : 0 ≤ σ 0 6 ∧ σ 0 6 ≤ 8) (hr : rel S s ν) (hS : wfS S) (hC : wfC S s) {Q : Option Value → Mem → Prop} {X : String → Mem → Prop} (K : rfMo S s m x = 0 → ∀ ν', rel S (amo S s m x) ν' → Q (some (.int (iI (s 5 0)))) (md (chg σ ν) ν' μ)) (K2 : rfMo S s m x ≠ 0 → Q (some (.int (iI 0))) (md (wr σ 0 7 (rfMo S s m x)) ν μ)) : mt 289 2 0 0 mX11_proposing [.ref 276, .int (iI m), .int (iI x)] Q X (md σ ν μ) := by
  show go 289 2 0 0 mX11_proposing Q X 0 [.ref 276, .int (iI m), .int (iI x), .null, .null] [] _
  obtain ⟨n1, n12, c1, c4⟩ := wf_n hS
  obtain ⟨q0, q16, r0, r12⟩ := wf_r hS hC
  have hmem := wf_m hS
  unfold rfMo at K K2
  refine go_aload_n (y := mX11_proposing) (pc := 0) dX11_proposing_0 rfl rfl ?_
  refine go_aload_n (y := mX11_proposing) (pc := 1) dX11_proposing_1 rfl rfl ?_
  refine go_iload_n (y := mX11_proposing) (pc := 2) dX11_proposing_2 rfl rfl ?_
  refine go_callV1 (y := mX11_proposing) (pc := 3) (y' := mX11_isMember) (kc2 := 0) (ks2 := 0) dX11_proposing_3 ml_X11_339 ok_X11_isMember (show shp 276 = _ from rfl) ⟨_, _, rfl⟩ (by decide) rfl (by decide) (Nat.le_of_ble_eq_true rfl) rfl (m_isMember (by omega) hr hS (fun v3 e3 b3 => ?_))
  refine go_iconst (y := mX11_proposing) (pc := 6) dX11_proposing_6 ?_
  refine go_callV2 (y := mX11_proposing) (pc := 7) (y' := mX11_right) (kc2 := 0) (ks2 := 0) dX11_proposing_7 ml_X11_167 ok_X11_right (show shp 276 = _ from rfl) ⟨_, _, rfl⟩ (by decide) ⟨rfl, rfl⟩ (by decide) (Nat.le_of_ble_eq_true rfl) rfl (m_right h7 (by omega) (by decide) (fun v7 e7 g7 => ?_) (fun g7 => ?_))
  · skip
    have gm : 0 ≤ m ∧ m < S 0 7 := bI_1 e3 (by omega)
    rw [if_pos gm] at K
    rw [if_pos gm] at K2
    refine go_if_eq (y := mX11_proposing) (pc := 10) (tgt := 53) dX11_proposing_10 (by decide) (by omega) (fun h10 => ?_) (fun h10 => ?_)
    · skip
      exact absurd h10 (by omega)
    · skip
      refine go_aload_n (y := mX11_proposing) (pc := 13) dX11_proposing_13 rfl rfl ?_
      refine go_iload_n (y := mX11_proposing) (pc := 14) dX11_proposing_14 rfl rfl ?_
      refine go_iconst (y := mX11_proposing) (pc := 15) dX11_proposing_15 ?_
      refine go_bipush (y := mX11_proposing) (pc := 16) dX11_proposing_16 (by decide) ?_
      refine go_callS3 (y := mX11_proposing) (pc := 18) (y' := mX11_in) (kc2 := 0) (ks2 := 0) dX11_proposing_18 ml_X11_86 ok_X11_in ⟨rfl, rfl, rfl⟩ (by decide) (Nat.le_of_ble_eq_true rfl) rfl (m_in (by omega) (by omega) (by omega) (fun v18 e18 b18 => ?_))
      refine go_iconst (y := mX11_proposing) (pc := 21) dX11_proposing_21 ?_
      refine go_callV2 (y := mX11_proposing) (pc := 22) (y' := mX11_right) (kc2 := 0) (ks2 := 0) dX11_proposing_22 ml_X11_167 ok_X11_right (show shp 276 = _ from rfl) ⟨_, _, rfl⟩ (by decide) ⟨rfl, rfl⟩ (by decide) (Nat.le_of_ble_eq_true rfl) rfl (m_right h7 (by omega) (by decide) (fun v22 e22 g22 => ?_) (fun g22 => ?_))
      · skip
        have gx : 0 ≤ x ∧ x ≤ 20 := bI_1 e18 (by omega)
        rw [if_neg (by omega)] at K
        rw [if_neg (by omega)] at K2
        refine go_if_eq (y := mX11_proposing) (pc := 25) (tgt := 53) dX11_proposing_25 (by decide) (by omega) (fun h25 => ?_) (fun h25 => ?_)
        · skip
          exact absurd h25 (by omega)
        · skip
          refine go_aload_n (y := mX11_proposing) (pc := 28) dX11_proposing_28 rfl rfl ?_
          refine go_aload_n (y := mX11_proposing) (pc := 29) dX11_proposing_29 rfl rfl ?_
          refine go_mref (y := mX11_proposing) (pc := 30) dX11_proposing_30 fl_X11_7 rfl rfl (by decide) ?_
          refine go_bipush (y := mX11_proposing) (pc := 33) dX11_proposing_33 (by decide) ?_
          refine go_nial (y := mX11_proposing) (pc := 35) (k := 9) dX11_proposing_35 (by decide) rfl (by omega) (fun r35 => ?_)
          refine go_top (b := s 5 0) (rs9 hr) (fun t35 => ?_)
          refine go_bipush (y := mX11_proposing) (pc := 36) dX11_proposing_36 (by decide) ?_
          refine go_icmp_ge (y := mX11_proposing) (pc := 38) (tgt := 45) dX11_proposing_38 (by decide) (by omega) (by omega) (fun h38 => ?_) (fun h38 => ?_)
          · skip
            refine go_iconst (y := mX11_proposing) (pc := 45) dX11_proposing_45 ?_
            refine go_iconst (y := mX11_proposing) (pc := 46) dX11_proposing_46 ?_
            refine go_callV2 (y := mX11_proposing) (pc := 47) (y' := mX11_right) (kc2 := 0) (ks2 := 0) dX11_proposing_47 ml_X11_167 ok_X11_right (show shp 276 = _ from rfl) ⟨_, _, rfl⟩ (by decide) ⟨rfl, rfl⟩ (by decide) (Nat.le_of_ble_eq_true rfl) rfl (m_right h7 (by omega) (by decide) (fun v47 e47 g47 => ?_) (fun g47 => ?_))
            · skip
              exact absurd g47 (by decide)
            · skip
              rw [if_pos (by omega)] at K2
              refine go_if_ne (y := mX11_proposing) (pc := 50) (tgt := 55) dX11_proposing_50 (by decide) (by omega) (fun h50 => ?_) (fun h50 => ?_)
              · skip
                exact absurd rfl h50
              · skip
                refine go_iconst (y := mX11_proposing) (pc := 53) dX11_proposing_53 ?_
                refine go_ireturn (y := mX11_proposing) (pc := 54) dX11_proposing_54 rfl ?_
                exact K2 (by decide)
          · skip
            refine go_iconst (y := mX11_proposing) (pc := 41) dX11_proposing_41 ?_
            refine go_goto (y := mX11_proposing) (pc := 42) (tgt := 46) dX11_proposing_42 (by decide) ?_
            refine go_iconst (y := mX11_proposing) (pc := 46) dX11_proposing_46 ?_
            refine go_callV2 (y := mX11_proposing) (pc := 47) (y' := mX11_right) (kc2 := 0) (ks2 := 0) dX11_proposing_47 ml_X11_167 ok_X11_right (show shp 276 = _ from rfl) ⟨_, _, rfl⟩ (by decide) ⟨rfl, rfl⟩ (by decide) (Nat.le_of_ble_eq_true rfl) rfl (m_right h7 (by omega) (by decide) (fun v47 e47 g47 => ?_) (fun g47 => ?_))
            · skip
              rw [if_neg (by omega)] at K
              obtain ⟨q, hq⟩ := Int.eq_ofNat_of_zero_le q0
              have hk := K rfl _ (rel_amo hr hS hC hq (by omega) gx)
              refine go_if_ne (y := mX11_proposing) (pc := 50) (tgt := 55) dX11_proposing_50 (by decide) (by omega) (fun h50 => ?_) (fun h50 => ?_)
              · skip
                refine go_aload_n (y := mX11_proposing) (pc := 55) dX11_proposing_55 rfl rfl ?_
                refine go_callV0 (y := mX11_proposing) (pc := 56) (y' := mX11_changes) (kc2 := 0) (ks2 := 0) dX11_proposing_56 ml_X11_387 ok_X11_changes (show shp 276 = _ from rfl) ⟨_, _, rfl⟩ (by decide) trivial (by decide) (Nat.le_of_ble_eq_true rfl) rfl (m_changes (σ := σ) (ν := ν) h6 ?_)
                refine go_aload_n (y := mX11_proposing) (pc := 59) dX11_proposing_59 rfl rfl ?_
                refine go_mref (y := mX11_proposing) (pc := 60) dX11_proposing_60 fl_X11_7 rfl rfl (by decide) ?_
                refine go_bipush (y := mX11_proposing) (pc := 63) dX11_proposing_63 (by decide) ?_
                refine go_nial (y := mX11_proposing) (pc := 65) (k := 9) dX11_proposing_65 (by decide) rfl (by omega) (fun r65 => ?_)
                refine go_top (b := ((q : Nat) : Int)) ((rs9 hr).trans hq) (fun t65 => ?_)
                refine go_istore_n (y := mX11_proposing) (pc := 66) dX11_proposing_66 rfl (by decide) ?_
                refine go_aload_n (y := mX11_proposing) (pc := 67) dX11_proposing_67 rfl rfl ?_
                refine go_iload_n (y := mX11_proposing) (pc := 68) dX11_proposing_68 rfl rfl ?_
                refine go_iconst (y := mX11_proposing) (pc := 69) dX11_proposing_69 ?_
                refine go_iload_n (y := mX11_proposing) (pc := 70) dX11_proposing_70 rfl rfl ?_
                refine go_callV3 (y := mX11_proposing) (pc := 71) (y' := mX11_putM) (kc2 := 0) (ks2 := 0) dX11_proposing_71 ml_X11_132 ok_X11_putM (show shp 276 = _ from rfl) ⟨_, _, rfl⟩ (by decide) ⟨rfl, rfl, rfl⟩ (by decide) (Nat.le_of_ble_eq_true rfl) rfl (m_putM (q := q) (w := 0) (by omega) (by decide) (by omega) ?_)
                refine go_aload_n (y := mX11_proposing) (pc := 74) dX11_proposing_74 rfl rfl ?_
                refine go_iload_n (y := mX11_proposing) (pc := 75) dX11_proposing_75 rfl rfl ?_
                refine go_iconst (y := mX11_proposing) (pc := 76) dX11_proposing_76 ?_
                refine go_iload_n (y := mX11_proposing) (pc := 77) dX11_proposing_77 rfl rfl ?_
                refine go_callV3 (y := mX11_proposing) (pc := 78) (y' := mX11_putM) (kc2 := 0) (ks2 := 0) dX11_proposing_78 ml_X11_132 ok_X11_putM (show shp 276 = _ from rfl) ⟨_, _, rfl⟩ (by decide) ⟨rfl, rfl, rfl⟩ (by decide) (Nat.le_of_ble_eq_true rfl) rfl (m_putM (q := q) (w := 1) (by omega) (by decide) (by omega) ?_)
                refine go_aload_n (y := mX11_proposing) (pc := 81) dX11_proposing_81 rfl rfl ?_
                refine go_iload_n (y := mX11_proposing) (pc := 82) dX11_proposing_82 rfl rfl ?_
                refine go_iconst (y := mX11_proposing) (pc := 83) dX11_proposing_83 ?_
                refine go_iconst (y := mX11_proposing) (pc := 84) dX11_proposing_84 ?_
                refine go_callV3 (y := mX11_proposing) (pc := 85) (y' := mX11_putM) (kc2 := 0) (ks2 := 0) dX11_proposing_85 ml_X11_132 ok_X11_putM (show shp 276 = _ from rfl) ⟨_, _, rfl⟩ (by decide) ⟨rfl, rfl, rfl⟩ (by decide) (Nat.le_of_ble_eq_true rfl) rfl (m_putM (q := q) (w := 2) (by omega) (by decide) (by omega) ?_)
                refine go_aload_n (y := mX11_proposing) (pc := 88) dX11_proposing_88 rfl rfl ?_
                refine go_iload_n (y := mX11_proposing) (pc := 89) dX11_proposing_89 rfl rfl ?_
                refine go_iconst (y := mX11_proposing) (pc := 90) dX11_proposing_90 ?_
                refine go_iconst (y := mX11_proposing) (pc := 91) dX11_proposing_91 ?_
                refine go_callV3 (y := mX11_proposing) (pc := 92) (y' := mX11_putM) (kc2 := 0) (ks2 := 0) dX11_proposing_92 ml_X11_132 ok_X11_putM (show shp 276 = _ from rfl) ⟨_, _, rfl⟩ (by decide) ⟨rfl, rfl, rfl⟩ (by decide) (Nat.le_of_ble_eq_true rfl) rfl (m_putM (q := q) (w := 3) (by omega) (by decide) (by omega) ?_)
                refine go_aload_n (y := mX11_proposing) (pc := 95) dX11_proposing_95 rfl rfl ?_
                refine go_iload_n (y := mX11_proposing) (pc := 96) dX11_proposing_96 rfl rfl ?_
                refine go_iconst (y := mX11_proposing) (pc := 97) dX11_proposing_97 ?_
                refine go_iconst (y := mX11_proposing) (pc := 98) dX11_proposing_98 ?_
                refine go_callV3 (y := mX11_proposing) (pc := 99) (y' := mX11_putM) (kc2 := 0) (ks2 := 0) dX11_proposing_99 ml_X11_132 ok_X11_putM (show shp 276 = _ from rfl) ⟨_, _, rfl⟩ (by decide) ⟨rfl, rfl, rfl⟩ (by decide) (Nat.le_of_ble_eq_true rfl) rfl (m_putM (q := q) (w := 4) (by omega) (by decide) (by omega) ?_)
                refine go_iconst (y := mX11_proposing) (pc := 102) dX11_proposing_102 ?_
                refine go_istore (y := mX11_proposing) (pc := 103) dX11_proposing_103 (by decide) ?_
                have loop : ∀ (n k : Nat), (k : Int) + n = S 0 7 → go 289 2 0 0 mX11_proposing Q X 105 [.ref 276, .int (iI m), .int (iI x), .int (iI (q : Nat)), .int (iI (k : Nat))] [] (md (chg σ ν) (amn S (am0n ν q m x) q x k) μ) := by
                  intro n
                  induction n using Nat.strongRecOn with
                  | _ n ih =>
                    intro k hkn
                    have ih' := ih (n - 1)
                    have lo : ∀ j, j < 90 → amn S (am0n ν q m x) q x k j = ν j := fun j hj => by
                      rw [amn_o _ (fun i hi => by omega)]
                      unfold am0n
                      rw [wv_n (by omega), wv_n (by omega), wv_n (by omega), wv_n (by omega), wv_n (by omega)]
                    refine go_iload (y := mX11_proposing) (pc := 105) dX11_proposing_105 rfl ?_
                    refine go_aload_n (y := mX11_proposing) (pc := 107) dX11_proposing_107 rfl rfl ?_
                    refine go_mref (y := mX11_proposing) (pc := 108) dX11_proposing_108 fl_X11_7 rfl rfl (by decide) ?_
                    refine go_bipush (y := mX11_proposing) (pc := 111) dX11_proposing_111 (by decide) ?_
                    refine go_nial (y := mX11_proposing) (pc := 113) (k := 8) dX11_proposing_113 (by decide) rfl (by omega) (fun r113 => ?_)
                    refine go_top (b := S 0 7) ((lo 8 (by decide)).trans (rs8 hr)) (fun t113 => ?_)
                    refine go_icmp_ge (y := mX11_proposing) (pc := 114) (tgt := 153) dX11_proposing_114 (by decide) (by omega) (by omega) (fun h114 => ?_) (fun h114 => ?_)
                    · skip
                      refine go_aload_n (y := mX11_proposing) (pc := 153) dX11_proposing_153 rfl rfl ?_
                      refine go_mref (y := mX11_proposing) (pc := 154) dX11_proposing_154 fl_X11_7 rfl rfl (by decide) ?_
                      refine go_bipush (y := mX11_proposing) (pc := 157) dX11_proposing_157 (by decide) ?_
                      refine go_dup2 (y := mX11_proposing) (pc := 159) dX11_proposing_159 rfl rfl ?_
                      refine go_nial (y := mX11_proposing) (pc := 160) (k := 9) dX11_proposing_160 (by decide) rfl (by omega) (fun r160 => ?_)
                      refine go_top (b := ((q : Nat) : Int)) ((lo 9 (by decide)).trans ((rs9 hr).trans hq)) (fun t160 => ?_)
                      refine go_iconst (y := mX11_proposing) (pc := 161) dX11_proposing_161 ?_
                      refine go_iadd (y := mX11_proposing) (pc := 162) dX11_proposing_162 ?_
                      refine go_nias (y := mX11_proposing) (pc := 163) (k := 9) dX11_proposing_163 (by decide) rfl (by omega) (by omega) ?_
                      refine go_iload_n (y := mX11_proposing) (pc := 164) dX11_proposing_164 rfl rfl ?_
                      refine go_ireturn (y := mX11_proposing) (pc := 165) dX11_proposing_165 rfl ?_
                      have e : k = (S 0 7).toNat := by omega
                      subst e
                      rw [hq] at hk
                      exact hk
                    · skip
                      have hmk := hmem k (by omega)
                      refine go_aload_n (y := mX11_proposing) (pc := 117) dX11_proposing_117 rfl rfl ?_
                      refine go_mref (y := mX11_proposing) (pc := 118) dX11_proposing_118 fl_X11_7 rfl rfl (by decide) ?_
                      refine go_sipush (y := mX11_proposing) (pc := 121) dX11_proposing_121 (by decide) ?_
                      refine go_bipush (y := mX11_proposing) (pc := 124) dX11_proposing_124 (by decide) ?_
                      refine go_iload (y := mX11_proposing) (pc := 126) dX11_proposing_126 rfl ?_
                      refine go_imul (y := mX11_proposing) (pc := 128) dX11_proposing_128 ?_
                      refine go_iadd (y := mX11_proposing) (pc := 129) dX11_proposing_129 ?_
                      refine go_iload_n (y := mX11_proposing) (pc := 130) dX11_proposing_130 rfl rfl ?_
                      refine go_iadd (y := mX11_proposing) (pc := 131) dX11_proposing_131 ?_
                      refine go_iconst (y := mX11_proposing) (pc := 132) dX11_proposing_132 ?_
                      refine go_aload_n (y := mX11_proposing) (pc := 133) dX11_proposing_133 rfl rfl ?_
                      refine go_iload (y := mX11_proposing) (pc := 134) dX11_proposing_134 rfl ?_
                      refine go_iconst (y := mX11_proposing) (pc := 136) dX11_proposing_136 ?_
                      refine go_callV2 (y := mX11_proposing) (pc := 137) (y' := mX11_of) (kc2 := 0) (ks2 := 0) dX11_proposing_137 ml_X11_100 ok_X11_of (show shp 276 = _ from rfl) ⟨_, _, rfl⟩ (by decide) ⟨rfl, rfl⟩ (by decide) (Nat.le_of_ble_eq_true rfl) rfl (m_of (m := k) (w := 2) (by omega) (by decide) (fun v137 e137 r137 => ?_))
                      refine go_top (b := S 3 k) (e137.trans ((lo _ (by omega)).trans (rlP hr (by omega)))) (fun t137 => ?_)
                      refine go_iload_n (y := mX11_proposing) (pc := 140) dX11_proposing_140 rfl rfl ?_
                      refine go_isub (y := mX11_proposing) (pc := 141) dX11_proposing_141 ?_
                      refine go_mabs (y := mX11_proposing) (pc := 142) dX11_proposing_142 ml_X11_125 (by decide) (Nat.le_of_ble_eq_true rfl) (by omega) ?_
                      refine go_isub (y := mX11_proposing) (pc := 145) dX11_proposing_145 ?_
                      refine go_nias (y := mX11_proposing) (pc := 146) (k := ((170 + (16 * k)) + q)) dX11_proposing_146 (by decide) (by omega) (by omega) (by omega) ?_
                      refine go_iinc (y := mX11_proposing) (pc := 147) dX11_proposing_147 rfl (by decide) ?_
                      refine go_goto (y := mX11_proposing) (pc := 150) (tgt := 105) dX11_proposing_150 (by decide) ?_
                      exact ih' (by omega) (k + 1) (by omega)
                exact loop (S 0 7).toNat 0 (by omega)
              · skip
                exact absurd h50 (by omega)
            · skip
              exact absurd g47 (by decide)
      · skip
        rw [if_pos (by have := bI_0 e18 g22; omega)] at K2
        refine go_if_eq (y := mX11_proposing) (pc := 25) (tgt := 53) dX11_proposing_25 (by decide) (by omega) (fun h25 => ?_) (fun h25 => ?_)
        · skip
          refine go_iconst (y := mX11_proposing) (pc := 53) dX11_proposing_53 ?_
          refine go_ireturn (y := mX11_proposing) (pc := 54) dX11_proposing_54 rfl ?_
          exact K2 (by decide)
        · skip
          exact absurd rfl h25
  · skip
    rw [if_neg (bI_0 e3 g7)] at K2
    refine go_if_eq (y := mX11_proposing) (pc := 10) (tgt := 53) dX11_proposing_10 (by decide) (by omega) (fun h10 => ?_) (fun h10 => ?_)
    · skip
      refine go_iconst (y := mX11_proposing) (pc := 53) dX11_proposing_53 ?_
      refine go_ireturn (y := mX11_proposing) (pc := 54) dX11_proposing_54 rfl ?_
      exact K2 (by decide)
    · skip
      exact absurd rfl h10
end MCh
