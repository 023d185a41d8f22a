/-! THE LAW's votes and withdrawals -/
set_option maxRecDepth 8000 in
set_option maxHeartbeats 4000000 in
theorem l_decides {w : Nat} (hw : is_ow w) (hz : w + 17 ≤ 293) {σ ω M : Mem} {T : Int} {n : Nat} (hB : HB M σ n) (hG : GD (su M) σ ω T) {b : Int} (hb : b = 0 ∨ b = 1) {v : Nat} (hv : v < 1000) {Q : Option Value → Mem → Prop} {X : String → Mem → Prop} (K : Q (some (.int (iI (-1)))) (ow w ω (put 20 σ M))) (K2 : ∀ σ' ω' τ, eqC τ σ → GD (su M) σ' ω' T → Q (some (.int (iI 1))) (ow w ω' (put 20 σ' (hst M n τ)))) : mt 293 8 0 0 mL_decides [.ref 0, .ref w, .int (iI b), .int (iI (v : Nat))] Q X (ow w ω (put 20 σ M)) := by
  show go 293 8 0 0 mL_decides Q X 0 [.ref 0, .ref w, .int (iI b), .int (iI (v : Nat)), .null, .null] [] _
  obtain ⟨hC, hR, hZ, hL, h5, hT⟩ := id hG
  have hS := hB.hS
  have n1 := wf_n hS
  have r1 := wf_r hS hC
  obtain ⟨a, ha⟩ := Int.eq_ofNat_of_zero_le r1.1
  have e9 : ω 0 9 = (a : Int) := hR.1.2.2.2.2.2.2.2.2.2.1.trans ha
  have st (q : Nat) (h : q < a) : ω 8 q = σ 7 q := (hR.2.2.1 q (by omega)).2.2.1
  have J106 : ∀ (q k : Nat), go 293 8 0 0 mL_decides Q X 106 [.ref 0, .ref w, .int (iI b), .int (iI (v : Nat)), .int (iI (q : Nat)), .int (iI (k : Nat))] [] (ow w ω (put 20 σ M)) := by
    intro q k
    refine go_iconst (y := mL_decides) (pc := 106) dL_decides_106 ?_
    refine go_ireturn (y := mL_decides) (pc := 107) dL_decides_107 rfl ?_
    exact K
  have J108 : ∀ (q k : Nat), q < a → σ 7 q = 0 → ¬ spa σ q → (b = 1 → obs (su M) σ q = 0) → go 293 8 0 0 mL_decides Q X 108 [.ref 0, .ref w, .int (iI b), .int (iI (v : Nat)), .int (iI (q : Nat)), .int (iI (k : Nat))] [] (ow w ω (put 20 σ M)) := by
    intro q k hq h7 hsp hbo
    have hoq : opn σ q := ⟨by omega, by omega, by rw [Int.toNat_natCast]; exact h7⟩
    rcases hb with hb | hb
    · subst hb
      refine go_iload_n (y := mL_decides) (pc := 108) dL_decides_108 rfl rfl ?_
      refine go_if_eq (y := mL_decides) (pc := 109) (tgt := 133) dL_decides_109 (by decide) (by omega) (fun h109 => ?_) (fun h109 => ?_)
      · skip
        refine go_aload_n (y := mL_decides) (pc := 133) dL_decides_133 rfl rfl ?_
        refine go_getR (y := mL_decides) (pc := 134) dL_decides_134 fl_L_120 (ow_sh hw 0 (by decide)) rfl (by omega) ?_
        refine go_iload (y := mL_decides) (pc := 137) dL_decides_137 rfl ?_
        refine go_iconst (y := mL_decides) (pc := 139) dL_decides_139 ?_
        refine go_wias (y := mL_decides) (pc := 140) (r := 8) (k := q) dL_decides_140 hw (by decide) rfl hz rfl (by omega) (by decide) (by omega) ?_
        refine go_aload_n (y := mL_decides) (pc := 141) dL_decides_141 rfl rfl ?_
        refine go_iload (y := mL_decides) (pc := 142) dL_decides_142 rfl ?_
        refine go_callV1 (y := mL_decides) (pc := 144) (y' := mX10_withdraw) (kc2 := 0) (ks2 := 0) dL_decides_144 ml_L_294 ok_X10_withdraw (show shp 0 = _ from rfl) ⟨_, _, rfl⟩ (by decide) rfl (by decide) (Nat.le_of_ble_eq_true rfl) rfl (r_withdraw hw hB (q := q) (by omega) (by unfold rfWd; rw [if_pos ⟨by omega, by omega⟩, if_pos ⟨hoq, hsp⟩]) (fun τ e144 => ?_))
        refine go_aload_n (y := mL_decides) (pc := 147) dL_decides_147 rfl rfl ?_
        refine go_iload (y := mL_decides) (pc := 148) dL_decides_148 rfl ?_
        refine go_callV1 (y := mL_decides) (pc := 150) (y' := mX11_removesAll) (kc2 := 0) (ks2 := 0) dL_decides_150 ml_L_297 ok_X11_removesAll (ow_sh hw 0 (by decide)) ⟨_, _, rfl⟩ (by omega) rfl (by decide) (Nat.le_of_ble_eq_true rfl) rfl (o_removesAll hw hz (S := su M) (s := wr σ 7 q 3) hS (wf_w hC (by omega)) (own_s7 (q := q) hR (by omega)) (q := q) (by omega) (fun ω' v' e150 f150 g150 b150 => ?_))
        refine go_top (b := σ 11 0 - clo σ q 3 11 0) (g150.trans (by rw [wr_na (by decide)]; rfl)) (fun t150 => ?_)
        refine go_icmp_ne (y := mL_decides) (pc := 153) (tgt := 160) dL_decides_153 (by decide) (by omega) (by omega) (fun h153 => ?_) (fun h153 => ?_)
        · skip
          exact absurd rfl h153
        · skip
          refine go_iconst (y := mL_decides) (pc := 156) dL_decides_156 ?_
          refine go_goto (y := mL_decides) (pc := 157) (tgt := 161) dL_decides_157 (by decide) ?_
          refine go_ireturn (y := mL_decides) (pc := 161) dL_decides_161 rfl ?_
          exact K2 _ ω' τ e144 (gd_wd hS hG (by omega) h7 e150)
      · skip
        exact absurd h109 (by decide)
    · subst hb
      refine go_iload_n (y := mL_decides) (pc := 108) dL_decides_108 rfl rfl ?_
      refine go_if_eq (y := mL_decides) (pc := 109) (tgt := 133) dL_decides_109 (by decide) (by omega) (fun h109 => ?_) (fun h109 => ?_)
      · skip
        exact absurd h109 (by decide)
      · skip
        refine go_aload_n (y := mL_decides) (pc := 112) dL_decides_112 rfl rfl ?_
        refine go_iload (y := mL_decides) (pc := 113) dL_decides_113 rfl ?_
        refine go_callV1 (y := mL_decides) (pc := 115) (y' := mX10_vote) (kc2 := 0) (ks2 := 0) dL_decides_115 ml_L_289 ok_X10_vote (show shp 0 = _ from rfl) ⟨_, _, rfl⟩ (by decide) rfl (by decide) (Nat.le_of_ble_eq_true rfl) rfl (r_vote hw hB (q := q) (by omega) (by unfold rfVt; rw [if_pos ⟨by omega, by omega⟩, if_pos (by unfold obo; rw [if_pos hoq, Int.toNat_natCast]; exact hbo rfl)]) (fun τ e115 => ?_))
        refine go_aload_n (y := mL_decides) (pc := 118) dL_decides_118 rfl rfl ?_
        refine go_iload (y := mL_decides) (pc := 119) dL_decides_119 rfl ?_
        refine go_callV1 (y := mL_decides) (pc := 121) (y' := mX11_votes) (kc2 := 0) (ks2 := 0) dL_decides_121 ml_L_292 ok_X11_votes (ow_sh hw 0 (by decide)) ⟨_, _, rfl⟩ (by omega) rfl (by decide) (Nat.le_of_ble_eq_true rfl) rfl (o_votes hw hz (S := su M) (s := σ) hS hC hR (q := q) (by omega) (fun ω' v' e121 f121 g121 b121 => ?_))
        refine go_icmp_ne (y := mL_decides) (pc := 124) (tgt := 131) dL_decides_124 (by decide) (by omega) (by omega) (fun h124 => ?_) (fun h124 => ?_)
        · skip
          exact absurd g121.symm h124
        · skip
          refine go_iconst (y := mL_decides) (pc := 127) dL_decides_127 ?_
          refine go_goto (y := mL_decides) (pc := 128) (tgt := 132) dL_decides_128 (by decide) ?_
          refine go_ireturn (y := mL_decides) (pc := 132) dL_decides_132 rfl ?_
          exact K2 _ ω' τ e115 (gd_hvo hS hG (by omega) h7 e121)
  have J67 : ∀ (q k : Nat), (0 < a → q < a) → go 293 8 0 0 mL_decides Q X 67 [.ref 0, .ref w, .int (iI b), .int (iI (v : Nat)), .int (iI (q : Nat)), .int (iI (k : Nat))] [] (ow w ω (put 20 σ M)) := by
    intro q k hq
    refine go_aload_n (y := mL_decides) (pc := 67) dL_decides_67 rfl rfl ?_
    refine go_wget (y := mL_decides) (pc := 68) (r := 0) dL_decides_68 fl_L_60 hw (by decide) rfl rfl hz (fun r68 => ?_)
    refine go_top (b := ((a : Nat) : Int)) (e9) (fun t68 => ?_)
    refine go_if_eq (y := mL_decides) (pc := 71) (tgt := 106) dL_decides_71 (by decide) (by omega) (fun h71 => ?_) (fun h71 => ?_)
    · skip
      exact J106 q k
    · skip
      have J87 : (b = 1 → obs (su M) σ q = 0) → go 293 8 0 0 mL_decides Q X 87 [.ref 0, .ref w, .int (iI b), .int (iI (v : Nat)), .int (iI (q : Nat)), .int (iI (k : Nat))] [] (ow w ω (put 20 σ M)) := by
        intro hbo
        refine go_aload_n (y := mL_decides) (pc := 87) dL_decides_87 rfl rfl ?_
        refine go_getR (y := mL_decides) (pc := 88) dL_decides_88 fl_L_120 (ow_sh hw 0 (by decide)) rfl (by omega) ?_
        refine go_iload (y := mL_decides) (pc := 91) dL_decides_91 rfl ?_
        refine go_wial (y := mL_decides) (pc := 93) (r := 8) (k := q) dL_decides_93 hw (by decide) rfl hz rfl (by omega) (by decide) (fun r93 => ?_)
        refine go_top (b := σ 7 q) (st q (by omega)) (fun t93 => ?_)
        refine go_if_gt (y := mL_decides) (pc := 94) (tgt := 106) dL_decides_94 (by decide) (by omega) (fun h94 => ?_) (fun h94 => ?_)
        · skip
          exact J106 q k
        · skip
          refine go_aload_n (y := mL_decides) (pc := 97) dL_decides_97 rfl rfl ?_
          refine go_iload (y := mL_decides) (pc := 98) dL_decides_98 rfl ?_
          refine go_callV1 (y := mL_decides) (pc := 100) (y' := mX11_isSpoken) (kc2 := 0) (ks2 := 0) dL_decides_100 ml_L_286 ok_X11_isSpoken (ow_sh hw 0 (by decide)) ⟨_, _, rfl⟩ (by omega) rfl (by decide) (Nat.le_of_ble_eq_true rfl) rfl (o_isSpoken hw hz hS hC hR (by omega) (fun v100 e100 b100 => ?_))
          refine go_if_eq (y := mL_decides) (pc := 103) (tgt := 108) dL_decides_103 (by decide) (by omega) (fun h103 => ?_) (fun h103 => ?_)
          · skip
            have h7 := (hC.2.2.1 q (by omega)).2.2.1
            refine J108 q k (by omega) (by omega) ?_ hbo
            intro hsp
            rw [bI_t hsp] at e100
            omega
          · skip
            exact J106 q k
      refine go_iload_n (y := mL_decides) (pc := 74) dL_decides_74 rfl rfl ?_
      refine go_if_eq (y := mL_decides) (pc := 75) (tgt := 87) dL_decides_75 (by decide) (by omega) (fun h75 => ?_) (fun h75 => ?_)
      · skip
        exact J87 (fun hb1 => by omega)
      · skip
        refine go_aload_n (y := mL_decides) (pc := 78) dL_decides_78 rfl rfl ?_
        refine go_iload (y := mL_decides) (pc := 79) dL_decides_79 rfl ?_
        refine go_callV1 (y := mL_decides) (pc := 81) (y' := mX11_obstacle) (kc2 := 0) (ks2 := 0) dL_decides_81 ml_L_146 ok_X11_obstacle (ow_sh hw 0 (by decide)) ⟨_, _, rfl⟩ (by omega) rfl (by decide) (Nat.le_of_ble_eq_true rfl) rfl (o_obstacle hw hz hS hC hR (q := q) (by omega) (fun v81 e81 b81 => ?_))
        refine go_if_gt (y := mL_decides) (pc := 84) (tgt := 106) dL_decides_84 (by decide) (by omega) (fun h84 => ?_) (fun h84 => ?_)
        · skip
          exact J106 q k
        · skip
          refine J87 (fun _ => by omega)
  have loop : ∀ (j k q : Nat), k + j = a → (0 < a → q < a) → go 293 8 0 0 mL_decides Q X 15 [.ref 0, .ref w, .int (iI b), .int (iI (v : Nat)), .int (iI (q : Nat)), .int (iI (k : Nat))] [] (ow w ω (put 20 σ M)) := by
    intro j
    induction j with
    | zero =>
      intro k q hk hq
      refine go_iload (y := mL_decides) (pc := 15) dL_decides_15 rfl ?_
      refine go_aload_n (y := mL_decides) (pc := 17) dL_decides_17 rfl rfl ?_
      refine go_wget (y := mL_decides) (pc := 18) (r := 0) dL_decides_18 fl_L_60 hw (by decide) rfl rfl hz (fun r18 => ?_)
      refine go_top (b := ((a : Nat) : Int)) (e9) (fun t18 => ?_)
      refine go_icmp_ge (y := mL_decides) (pc := 21) (tgt := 67) dL_decides_21 (by decide) (by omega) (by omega) (fun h21 => ?_) (fun h21 => ?_)
      · skip
        exact J67 q k hq
      · skip
        exact absurd h21 (by omega)
    | succ j ih =>
      intro k q hk hq
      have J50 : go 293 8 0 0 mL_decides Q X 50 [.ref 0, .ref w, .int (iI b), .int (iI (v : Nat)), .int (iI (q : Nat)), .int (iI (k : Nat))] [] (ow w ω (put 20 σ M)) := by
        refine go_iload (y := mL_decides) (pc := 50) dL_decides_50 rfl ?_
        refine go_iconst (y := mL_decides) (pc := 52) dL_decides_52 ?_
        refine go_iadd (y := mL_decides) (pc := 53) dL_decides_53 ?_
        refine go_aload_n (y := mL_decides) (pc := 54) dL_decides_54 rfl rfl ?_
        refine go_wget (y := mL_decides) (pc := 55) (r := 0) dL_decides_55 fl_L_60 hw (by decide) rfl rfl hz (fun r55 => ?_)
        refine go_top (b := ((a : Nat) : Int)) (e9) (fun t55 => ?_)
        refine go_iremN (y := mL_decides) (pc := 58) (a := (q + 1)) (b := a) dL_decides_58 (by omega) (by omega) (by omega) ?_
        refine go_istore (y := mL_decides) (pc := 59) dL_decides_59 (by decide) ?_
        refine go_iinc (y := mL_decides) (pc := 61) dL_decides_61 rfl (by decide) ?_
        refine go_goto (y := mL_decides) (pc := 64) (tgt := 15) dL_decides_64 (by decide) ?_
        exact ih (k + 1) ((q + 1) % a) (by omega) (fun _ => Nat.mod_lt _ (by omega))
      refine go_iload (y := mL_decides) (pc := 15) dL_decides_15 rfl ?_
      refine go_aload_n (y := mL_decides) (pc := 17) dL_decides_17 rfl rfl ?_
      refine go_wget (y := mL_decides) (pc := 18) (r := 0) dL_decides_18 fl_L_60 hw (by decide) rfl rfl hz (fun r18 => ?_)
      refine go_top (b := ((a : Nat) : Int)) (e9) (fun t18 => ?_)
      refine go_icmp_ge (y := mL_decides) (pc := 21) (tgt := 67) dL_decides_21 (by decide) (by omega) (by omega) (fun h21 => ?_) (fun h21 => ?_)
      · skip
        exact J67 q k hq
      · skip
        refine go_iload_n (y := mL_decides) (pc := 24) dL_decides_24 rfl rfl ?_
        refine go_if_eq (y := mL_decides) (pc := 25) (tgt := 40) dL_decides_25 (by decide) (by omega) (fun h25 => ?_) (fun h25 => ?_)
        · skip
          refine go_aload_n (y := mL_decides) (pc := 40) dL_decides_40 rfl rfl ?_
          refine go_getR (y := mL_decides) (pc := 41) dL_decides_41 fl_L_120 (ow_sh hw 0 (by decide)) rfl (by omega) ?_
          refine go_iload (y := mL_decides) (pc := 44) dL_decides_44 rfl ?_
          refine go_wial (y := mL_decides) (pc := 46) (r := 8) (k := q) dL_decides_46 hw (by decide) rfl hz rfl (by omega) (by decide) (fun r46 => ?_)
          refine go_top (b := σ 7 q) (st q (by omega)) (fun t46 => ?_)
          refine go_if_le (y := mL_decides) (pc := 47) (tgt := 67) dL_decides_47 (by decide) (by omega) (fun h47 => ?_) (fun h47 => ?_)
          · skip
            exact J67 q k hq
          · skip
            exact J50
        · skip
          refine go_aload_n (y := mL_decides) (pc := 28) dL_decides_28 rfl rfl ?_
          refine go_iload (y := mL_decides) (pc := 29) dL_decides_29 rfl ?_
          refine go_callV1 (y := mL_decides) (pc := 31) (y' := mX11_obstacle) (kc2 := 0) (ks2 := 0) dL_decides_31 ml_L_146 ok_X11_obstacle (ow_sh hw 0 (by decide)) ⟨_, _, rfl⟩ (by omega) rfl (by decide) (Nat.le_of_ble_eq_true rfl) rfl (o_obstacle hw hz hS hC hR (q := q) (by omega) (fun v31 e31 b31 => ?_))
          refine go_if_le (y := mL_decides) (pc := 34) (tgt := 67) dL_decides_34 (by decide) (by omega) (fun h34 => ?_) (fun h34 => ?_)
          · skip
            exact J67 q k hq
          · skip
            refine go_goto (y := mL_decides) (pc := 37) (tgt := 50) dL_decides_37 (by decide) ?_
            exact J50
  refine go_iload_n (y := mL_decides) (pc := 0) dL_decides_0 rfl rfl ?_
  refine go_iconst (y := mL_decides) (pc := 1) dL_decides_1 ?_
  refine go_aload_n (y := mL_decides) (pc := 2) dL_decides_2 rfl rfl ?_
  refine go_wget (y := mL_decides) (pc := 3) (r := 0) dL_decides_3 fl_L_60 hw (by decide) rfl rfl hz (fun r3 => ?_)
  refine go_top (b := ((a : Nat) : Int)) (e9) (fun t3 => ?_)
  refine go_mmax (y := mL_decides) (pc := 6) dL_decides_6 ml_L_268 (by decide) (Nat.le_of_ble_eq_true rfl) (by omega) (by omega) ?_
  refine go_top (b := ((max 1 a : Nat) : Int)) ((by omega)) (fun t6 => ?_)
  refine go_iremN (y := mL_decides) (pc := 9) (a := v) (b := (max 1 a)) dL_decides_9 (by omega) (by omega) (by omega) ?_
  refine go_istore (y := mL_decides) (pc := 10) dL_decides_10 (by decide) ?_
  refine go_iconst (y := mL_decides) (pc := 12) dL_decides_12 ?_
  refine go_istore (y := mL_decides) (pc := 13) dL_decides_13 (by decide) ?_
  exact loop a 0 (v % max 1 a) (by omega) (fun h => by have := Nat.mod_lt v (show 0 < max 1 a by omega); omega)
