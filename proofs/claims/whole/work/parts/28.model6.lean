/-! THE MODEL: changes, 2 -/
theorem mvr_w0 {s : Mem} {i e : Nat} {v : Int} : mvr (wr s 0 8 v) i e = wr (mvr s i e) 0 8 v := by
  have h : ∀ r, 12 ≤ r → wr s 0 8 v r i = s r i := fun r hr => wr_na (by omega)
  funext r j
  unfold mvr
  rw [h 12 (by decide), h 13 (by decide), h 14 (by decide)]
  unfold wr
  by_cases g : r = 0
  · subst g; simp
  · simp [g]
theorem cab_k_w0 {s : Mem} {q v : Int} : ∀ k, cab_k (wr s 0 8 v) q k = (wr (cab_k s q k).1 0 8 v, (cab_k s q k).2)
  | 0 => rfl
  | k + 1 => by
    rw [cab_k, cab_k_w0 k, cab_k]
    show (if wr (cab_k s q k).1 0 8 v 13 k ≠ q then _ else _) = _
    rw [wr_na (by decide : (13 : Nat) ≠ 0)]
    by_cases g : (cab_k s q k).1 13 k ≠ q
    · rw [if_pos g, if_pos g]
      show (mvr (wr (cab_k s q k).1 0 8 v) k (cab_k s q k).2, _) = _
      rw [mvr_w0]
    · rw [if_neg g, if_neg g]
theorem cab_w0 {s : Mem} {q v : Int} : cab (wr s 0 8 v) q = wr (cab s q) 0 8 v := by
  unfold cab
  rw [wr_na (by decide : (11 : Nat) ≠ 0), cab_k_w0]
  funext r j
  show wr (wr (cab_k s q (s 11 0).toNat).1 0 8 v) 11 0 _ r j = _
  unfold wr
  by_cases g : r = 0
  · subst g; simp
  · simp [g]
section MCh2
variable {S s σ μ : Mem} {ν : Nat → Int}
theorem bI_and {p q : Prop} [Decidable p] [Decidable q] {a b : Int} (ha : a = bI p) (hb : b = bI q) : (a ≠ 0 ∧ b ≠ 0) ↔ (p ∧ q) := by
  subst ha hb
  unfold bI
  by_cases h1 : p <;> by_cases h2 : q <;> simp [h1, h2]
set_option maxRecDepth 8000 in
set_option maxHeartbeats 4000000 in
theorem m_asking {m q : Int} {d : Int} (hm : rng m) (hq : rng q) (hd : d = 1 ∨ d = -1) (h7 : σ 0 7 = 0) (h6 : 0 ≤ σ 0 6 ∧ σ 0 6 ≤ 8) (hr : rel S s ν) (hS : wfS S) (hC : wfC S s) {Q : Option Value → Mem → Prop} {X : String → Mem → Prop} (K : rfRq S s m q = 0 → ∀ ν', rel S (rad s m q d) ν' → Q (some (.int (iI (s 11 0)))) (md (chg σ ν) ν' μ)) (K2 : rfRq S s m q ≠ 0 → Q (some (.int (iI 0))) (md (wr σ 0 7 (t2 (rfRq S s m q))) ν μ)) : mt 289 2 0 0 mX11_asking [.ref 276, .int (iI m), .int (iI q), .int (iI (sdm d))] Q X (md σ ν μ) := by
  show go 289 2 0 0 mX11_asking Q X 0 [.ref 276, .int (iI m), .int (iI q), .int (iI (sdm d)), .null] [] _
  obtain ⟨n1, n12, c1, c4⟩ := wf_n hS
  obtain ⟨q0, q16, r0, r12⟩ := wf_r hS hC
  have hsd := sdm_b d
  unfold rfRq at K K2
  have J68 : ∀ ν1 : Nat → Int, ∀ τ : Mem, Q (some (.int (iI 0))) (md τ ν1 μ) → go 289 2 0 0 mX11_asking Q X 68 [.ref 276, .int (iI m), .int (iI q), .int (iI (sdm d)), .null] [] (md τ ν1 μ) := by
    intro ν1 τ hq9
    refine go_iconst (y := mX11_asking) (pc := 68) dX11_asking_68 ?_
    refine go_ireturn (y := mX11_asking) (pc := 69) dX11_asking_69 rfl ?_
    exact hq9
  have J22 : ∀ a : Int, (a = 0 ∨ a = 1) → (a = 1 ↔ ((0 ≤ m ∧ m < S 0 7) ∧ (0 ≤ q ∧ q < s 5 0))) → go 289 2 0 0 mX11_asking Q X 22 [.ref 276, .int (iI m), .int (iI q), .int (iI (sdm d)), .null] [.int (iI a), .ref 276] (md σ ν μ) := by
    intro a ga ha
    refine go_iconst (y := mX11_asking) (pc := 22) dX11_asking_22 ?_
    refine go_callV2 (y := mX11_asking) (pc := 23) (y' := mX11_right) (kc2 := 0) (ks2 := 0) dX11_asking_23 ml_X11_167 ok_X11_right (show shp 276 = _ from rfl) ⟨_, _, rfl⟩ (by decide) ⟨rfl, rfl⟩ (by decide) (Nat.le_of_ble_eq_true rfl) rfl (m_right h7 (by omega) (by decide) (fun v23 e23 g23 => ?_) (fun g23 => ?_))
    · skip
      have g := ha.mp (by omega)
      rw [if_pos g] at K
      rw [if_pos g] at K2
      obtain ⟨qn, hqn⟩ := Int.eq_ofNat_of_zero_le g.2.1
      obtain ⟨mn, hmn⟩ := Int.eq_ofNat_of_zero_le g.1.1
      subst hqn hmn
      have J61 : ∀ b : Int, (b = 0 ∨ b = 1) → (b = 1 ↔ (opn s qn ∧ plc s mn = -1 ∧ tkn s mn = -1)) → go 289 2 0 0 mX11_asking Q X 61 [.ref 276, .int (iI (mn : Nat)), .int (iI (qn : Nat)), .int (iI (sdm d)), .null] [.int (iI b), .ref 276] (md σ ν μ) := by
        intro b gb hb
        refine go_iconst (y := mX11_asking) (pc := 61) dX11_asking_61 ?_
        refine go_callV2 (y := mX11_asking) (pc := 62) (y' := mX11_right) (kc2 := 0) (ks2 := 0) dX11_asking_62 ml_X11_167 ok_X11_right (show shp 276 = _ from rfl) ⟨_, _, rfl⟩ (by decide) ⟨rfl, rfl⟩ (by decide) (Nat.le_of_ble_eq_true rfl) rfl (m_right h7 (by omega) (by decide) (fun v62 e62 g62 => ?_) (fun g62 => ?_))
        · skip
          have g2 := hb.mp (by omega)
          rw [if_pos g2] at K
          obtain ⟨n, hn⟩ := Int.eq_ofNat_of_zero_le r0
          have hwf := (wf_rad (d := d) hS hC g.1.2 g.2.2 hd g2.2.1).1.2.2.2.1
          have hlt : s 11 0 < 12 := by
            have e : rad s mn qn d 11 0 = s 11 0 + 1 := wr_s _ _ _ _
            rw [e] at hwf
            omega
          have hk := K rfl _ (rel_rad hr hS hC hn hlt)
          refine go_if_ne (y := mX11_asking) (pc := 65) (tgt := 70) dX11_asking_65 (by decide) (by omega) (fun h65 => ?_) (fun h65 => ?_)
          · skip
            refine go_aload_n (y := mX11_asking) (pc := 70) dX11_asking_70 rfl rfl ?_
            refine go_callV0 (y := mX11_asking) (pc := 71) (y' := mX11_changes) (kc2 := 0) (ks2 := 0) dX11_asking_71 ml_X11_387 ok_X11_changes (show shp 276 = _ from rfl) ⟨_, _, rfl⟩ (by decide) trivial (by decide) (Nat.le_of_ble_eq_true rfl) rfl (m_changes (σ := σ) (ν := ν) h6 ?_)
            refine go_aload_n (y := mX11_asking) (pc := 74) dX11_asking_74 rfl rfl ?_
            refine go_mref (y := mX11_asking) (pc := 75) dX11_asking_75 fl_X11_7 rfl rfl (by decide) ?_
            refine go_bipush (y := mX11_asking) (pc := 78) dX11_asking_78 (by decide) ?_
            refine go_nial (y := mX11_asking) (pc := 80) (k := 11) dX11_asking_80 (by decide) rfl (by omega) (fun r80 => ?_)
            refine go_top (b := ((n : Nat) : Int)) ((rs11 hr).trans hn) (fun t80 => ?_)
            refine go_istore (y := mX11_asking) (pc := 81) dX11_asking_81 (by decide) ?_
            refine go_aload_n (y := mX11_asking) (pc := 83) dX11_asking_83 rfl rfl ?_
            refine go_mref (y := mX11_asking) (pc := 84) dX11_asking_84 fl_X11_7 rfl rfl (by decide) ?_
            refine go_sipush (y := mX11_asking) (pc := 87) dX11_asking_87 (by decide) ?_
            refine go_iconst (y := mX11_asking) (pc := 90) dX11_asking_90 ?_
            refine go_iload (y := mX11_asking) (pc := 91) dX11_asking_91 rfl ?_
            refine go_imul (y := mX11_asking) (pc := 93) dX11_asking_93 ?_
            refine go_iadd (y := mX11_asking) (pc := 94) dX11_asking_94 ?_
            refine go_iconst (y := mX11_asking) (pc := 95) dX11_asking_95 ?_
            refine go_iadd (y := mX11_asking) (pc := 96) dX11_asking_96 ?_
            refine go_iload_n (y := mX11_asking) (pc := 97) dX11_asking_97 rfl rfl ?_
            refine go_nias (y := mX11_asking) (pc := 98) (k := ((382 + (3 * n)) + 0)) dX11_asking_98 (by decide) (by omega) (by omega) (by omega) ?_
            refine go_aload_n (y := mX11_asking) (pc := 99) dX11_asking_99 rfl rfl ?_
            refine go_mref (y := mX11_asking) (pc := 100) dX11_asking_100 fl_X11_7 rfl rfl (by decide) ?_
            refine go_sipush (y := mX11_asking) (pc := 103) dX11_asking_103 (by decide) ?_
            refine go_iconst (y := mX11_asking) (pc := 106) dX11_asking_106 ?_
            refine go_iload (y := mX11_asking) (pc := 107) dX11_asking_107 rfl ?_
            refine go_imul (y := mX11_asking) (pc := 109) dX11_asking_109 ?_
            refine go_iadd (y := mX11_asking) (pc := 110) dX11_asking_110 ?_
            refine go_iconst (y := mX11_asking) (pc := 111) dX11_asking_111 ?_
            refine go_iadd (y := mX11_asking) (pc := 112) dX11_asking_112 ?_
            refine go_iload_n (y := mX11_asking) (pc := 113) dX11_asking_113 rfl rfl ?_
            refine go_nias (y := mX11_asking) (pc := 114) (k := ((382 + (3 * n)) + 1)) dX11_asking_114 (by decide) (by omega) (by omega) (by omega) ?_
            refine go_aload_n (y := mX11_asking) (pc := 115) dX11_asking_115 rfl rfl ?_
            refine go_mref (y := mX11_asking) (pc := 116) dX11_asking_116 fl_X11_7 rfl rfl (by decide) ?_
            refine go_sipush (y := mX11_asking) (pc := 119) dX11_asking_119 (by decide) ?_
            refine go_iconst (y := mX11_asking) (pc := 122) dX11_asking_122 ?_
            refine go_iload (y := mX11_asking) (pc := 123) dX11_asking_123 rfl ?_
            refine go_imul (y := mX11_asking) (pc := 125) dX11_asking_125 ?_
            refine go_iadd (y := mX11_asking) (pc := 126) dX11_asking_126 ?_
            refine go_iconst (y := mX11_asking) (pc := 127) dX11_asking_127 ?_
            refine go_iadd (y := mX11_asking) (pc := 128) dX11_asking_128 ?_
            refine go_iload_n (y := mX11_asking) (pc := 129) dX11_asking_129 rfl rfl ?_
            refine go_nias (y := mX11_asking) (pc := 130) (k := ((382 + (3 * n)) + 2)) dX11_asking_130 (by decide) (by omega) (by omega) (by omega) ?_
            refine go_aload_n (y := mX11_asking) (pc := 131) dX11_asking_131 rfl rfl ?_
            refine go_mref (y := mX11_asking) (pc := 132) dX11_asking_132 fl_X11_7 rfl rfl (by decide) ?_
            refine go_bipush (y := mX11_asking) (pc := 135) dX11_asking_135 (by decide) ?_
            refine go_dup2 (y := mX11_asking) (pc := 137) dX11_asking_137 rfl rfl ?_
            refine go_nial (y := mX11_asking) (pc := 138) (k := 11) dX11_asking_138 (by decide) rfl (by omega) (fun r138 => ?_)
            refine go_top (b := ((n : Nat) : Int)) (((wv_n (by omega)).trans ((wv_n (by omega)).trans (wv_n (by omega)))).trans ((rs11 hr).trans hn)) (fun t138 => ?_)
            refine go_iconst (y := mX11_asking) (pc := 139) dX11_asking_139 ?_
            refine go_iadd (y := mX11_asking) (pc := 140) dX11_asking_140 ?_
            refine go_nias (y := mX11_asking) (pc := 141) (k := 11) dX11_asking_141 (by decide) rfl (by omega) (by omega) ?_
            refine go_iload (y := mX11_asking) (pc := 142) dX11_asking_142 rfl ?_
            refine go_ireturn (y := mX11_asking) (pc := 144) dX11_asking_144 rfl ?_
            rw [hn] at hk
            exact hk
          · skip
            exact absurd h65 (by omega)
        · skip
          rw [if_neg (fun w => by have := hb.mpr w; omega)] at K2
          refine go_if_ne (y := mX11_asking) (pc := 65) (tgt := 70) dX11_asking_65 (by decide) (by omega) (fun h65 => ?_) (fun h65 => ?_)
          · skip
            exact absurd rfl h65
          · skip
            exact J68 _ _ (K2 (by decide))
      refine go_if_eq (y := mX11_asking) (pc := 26) (tgt := 68) dX11_asking_26 (by decide) (by omega) (fun h26 => ?_) (fun h26 => ?_)
      · skip
        exact absurd h26 (by omega)
      · skip
        have J60 : ¬ (opn s qn ∧ plc s mn = -1 ∧ tkn s mn = -1) → go 289 2 0 0 mX11_asking Q X 60 [.ref 276, .int (iI (mn : Nat)), .int (iI (qn : Nat)), .int (iI (sdm d)), .null] [.ref 276] (md σ ν μ) := by
          intro g2
          refine go_iconst (y := mX11_asking) (pc := 60) dX11_asking_60 ?_
          exact J61 0 (by omega) ⟨fun w => absurd w (by decide), fun w => absurd w g2⟩
        refine go_aload_n (y := mX11_asking) (pc := 29) dX11_asking_29 rfl rfl ?_
        refine go_aload_n (y := mX11_asking) (pc := 30) dX11_asking_30 rfl rfl ?_
        refine go_iload_n (y := mX11_asking) (pc := 31) dX11_asking_31 rfl rfl ?_
        refine go_callV1 (y := mX11_asking) (pc := 32) (y' := mX11_isOpen) (kc2 := 0) (ks2 := 0) dX11_asking_32 ml_X11_141 ok_X11_isOpen (show shp 276 = _ from rfl) ⟨_, _, rfl⟩ (by decide) rfl (by decide) (Nat.le_of_ble_eq_true rfl) rfl (m_isOpen (q := qn) (by omega) (by omega) hr (fun v32 e32 b32 => ?_))
        refine go_if_eq (y := mX11_asking) (pc := 35) (tgt := 60) dX11_asking_35 (by decide) (by omega) (fun h35 => ?_) (fun h35 => ?_)
        · skip
          exact J60 (fun w => bI_0 e32 h35 w.1.2.2)
        · skip
          have go1 := bI_1 e32 h35
          refine go_aload_n (y := mX11_asking) (pc := 38) dX11_asking_38 rfl rfl ?_
          refine go_iload_n (y := mX11_asking) (pc := 39) dX11_asking_39 rfl rfl ?_
          refine go_callV1 (y := mX11_asking) (pc := 40) (y' := mX11_listedAt) (kc2 := 0) (ks2 := 0) dX11_asking_40 ml_X11_351 ok_X11_listedAt (show shp 276 = _ from rfl) ⟨_, _, rfl⟩ (by decide) rfl (by decide) (Nat.le_of_ble_eq_true rfl) rfl (m_listedAt (by omega) hr hS hC (fun v40 e40 b40 => ?_))
          refine go_iconst (y := mX11_asking) (pc := 43) dX11_asking_43 ?_
          refine go_icmp_ne (y := mX11_asking) (pc := 44) (tgt := 60) dX11_asking_44 (by decide) (by omega) (by omega) (fun h44 => ?_) (fun h44 => ?_)
          · skip
            exact J60 (fun w => h44 (e40.trans w.2.1))
          · skip
            refine go_aload_n (y := mX11_asking) (pc := 47) dX11_asking_47 rfl rfl ?_
            refine go_iload_n (y := mX11_asking) (pc := 48) dX11_asking_48 rfl rfl ?_
            refine go_callV1 (y := mX11_asking) (pc := 49) (y' := mX11_seatOf) (kc2 := 0) (ks2 := 0) dX11_asking_49 ml_X11_348 ok_X11_seatOf (show shp 276 = _ from rfl) ⟨_, _, rfl⟩ (by decide) rfl (by decide) (Nat.le_of_ble_eq_true rfl) rfl (m_seatOf (by omega) (by omega) hr hS hC (fun v49 e49 b49 => ?_))
            refine go_iconst (y := mX11_asking) (pc := 52) dX11_asking_52 ?_
            refine go_icmp_ne (y := mX11_asking) (pc := 53) (tgt := 60) dX11_asking_53 (by decide) (by omega) (by omega) (fun h53 => ?_) (fun h53 => ?_)
            · skip
              exact J60 (fun w => h53 (e49.trans w.2.2))
            · skip
              refine go_iconst (y := mX11_asking) (pc := 56) dX11_asking_56 ?_
              refine go_goto (y := mX11_asking) (pc := 57) (tgt := 61) dX11_asking_57 (by decide) ?_
              exact J61 1 (by omega) ⟨fun _ => ⟨⟨g.2.1, g.2.2, go1⟩, e40 ▸ h44, e49 ▸ h53⟩, fun _ => rfl⟩
    · skip
      rw [if_neg (fun w => by have := ha.mpr w; omega)] at K2
      refine go_if_eq (y := mX11_asking) (pc := 26) (tgt := 68) dX11_asking_26 (by decide) (by omega) (fun h26 => ?_) (fun h26 => ?_)
      · skip
        exact J68 _ _ (K2 (by decide))
      · skip
        exact absurd rfl h26
  have J21 : ¬ ((0 ≤ m ∧ m < S 0 7) ∧ (0 ≤ q ∧ q < s 5 0)) → go 289 2 0 0 mX11_asking Q X 21 [.ref 276, .int (iI m), .int (iI q), .int (iI (sdm d)), .null] [.ref 276] (md σ ν μ) := by
    intro g
    refine go_iconst (y := mX11_asking) (pc := 21) dX11_asking_21 ?_
    exact J22 0 (by omega) ⟨fun w => absurd w (by decide), fun w => absurd w g⟩
  refine go_aload_n (y := mX11_asking) (pc := 0) dX11_asking_0 rfl rfl ?_
  refine go_aload_n (y := mX11_asking) (pc := 1) dX11_asking_1 rfl rfl ?_
  refine go_iload_n (y := mX11_asking) (pc := 2) dX11_asking_2 rfl rfl ?_
  refine go_callV1 (y := mX11_asking) (pc := 3) (y' := mX11_isMember) (kc2 := 0) (ks2 := 0) dX11_asking_3 ml_X11_339 ok_X11_isMember (show shp 276 = _ from rfl) ⟨_, _, rfl⟩ (by decide) rfl (by decide) (Nat.le_of_ble_eq_true rfl) rfl (m_isMember (by omega) hr hS (fun v3 e3 b3 => ?_))
  refine go_if_eq (y := mX11_asking) (pc := 6) (tgt := 21) dX11_asking_6 (by decide) (by omega) (fun h6 => ?_) (fun h6 => ?_)
  · skip
    exact J21 (fun w => bI_0 e3 h6 w.1)
  · skip
    refine go_aload_n (y := mX11_asking) (pc := 9) dX11_asking_9 rfl rfl ?_
    refine go_iload_n (y := mX11_asking) (pc := 10) dX11_asking_10 rfl rfl ?_
    refine go_callV1 (y := mX11_asking) (pc := 11) (y' := mX11_isMotion) (kc2 := 0) (ks2 := 0) dX11_asking_11 ml_X11_345 ok_X11_isMotion (show shp 276 = _ from rfl) ⟨_, _, rfl⟩ (by decide) rfl (by decide) (Nat.le_of_ble_eq_true rfl) rfl (m_isMotion (by omega) hr hC (fun v11 e11 b11 => ?_))
    refine go_if_eq (y := mX11_asking) (pc := 14) (tgt := 21) dX11_asking_14 (by decide) (by omega) (fun h14 => ?_) (fun h14 => ?_)
    · skip
      exact J21 (fun w => bI_0 e11 h14 w.2)
    · skip
      refine go_iconst (y := mX11_asking) (pc := 17) dX11_asking_17 ?_
      refine go_goto (y := mX11_asking) (pc := 18) (tgt := 22) dX11_asking_18 (by decide) ?_
      exact J22 1 (by omega) ⟨fun _ => ⟨bI_1 e3 h6, bI_1 e11 h14⟩, fun _ => rfl⟩
abbrev crb (S s : Mem) (m h : Int) : Prop := s 16 h.toNat ≠ -1 ∧ s 20 h.toNat ≤ 0 ∧ 0 < frm S s ∧ tkn s m = -1 ∧ ln s m.toNat (s 17 h.toNat).toNat * s 18 h.toNat < 0
set_option maxRecDepth 8000 in
set_option maxHeartbeats 4000000 in
theorem m_canRebut {m h : Nat} (hm : (m : Int) < S 0 7) (hh : (h : Int) < S 0 0) (hr : rel S s ν) (hS : wfS S) (hC : wfC S s) {Q : Option Value → Mem → Prop} {X : String → Mem → Prop} (K : ∀ v, v = bI (crb S s m h) → v = 0 ∨ v = 1 → Q (some (.int (iI v))) (md σ ν μ)) : mt 289 2 0 0 mX11_canRebut [.ref 276, .int (iI (m : Nat)), .int (iI (h : Nat))] Q X (md σ ν μ) := by
  show go 289 2 0 0 mX11_canRebut Q X 0 [.ref 276, .int (iI (m : Nat)), .int (iI (h : Nat)), .null] [] _
  obtain ⟨n1, n12, c1, c4⟩ := wf_n hS
  obtain ⟨q0, q16, r0, r12⟩ := wf_r hS hC
  have hX := hC.2.2.2.2.2 h (by omega)
  have eh : ((h : Int)).toNat = h := rfl
  have em : ((m : Int)).toNat = m := rfl
  have J36 : ¬ crb S s m h → go 289 2 0 0 mX11_canRebut Q X 36 [.ref 276, .int (iI (m : Nat)), .int (iI (h : Nat)), .null] [] (md σ ν μ) := by
    intro g
    refine go_iconst (y := mX11_canRebut) (pc := 36) dX11_canRebut_36 ?_
    refine go_zreturn (y := mX11_canRebut) (pc := 37) dX11_canRebut_37 rfl (by omega) ?_
    exact K _ (bI_f g).symm (by omega)
  refine go_aload_n (y := mX11_canRebut) (pc := 0) dX11_canRebut_0 rfl rfl ?_
  refine go_iload_n (y := mX11_canRebut) (pc := 1) dX11_canRebut_1 rfl rfl ?_
  refine go_iconst (y := mX11_canRebut) (pc := 2) dX11_canRebut_2 ?_
  refine go_callV2 (y := mX11_canRebut) (pc := 3) (y' := mX11_ofC) (kc2 := 0) (ks2 := 0) dX11_canRebut_3 ml_X11_94 ok_X11_ofC (show shp 276 = _ from rfl) ⟨_, _, rfl⟩ (by decide) ⟨rfl, rfl⟩ (by decide) (Nat.le_of_ble_eq_true rfl) rfl (m_ofC (h := h) (w := 0) (by omega) (by decide) (fun v3 e3 r3 => ?_))
  refine go_top (b := s 16 h) (e3.trans (rhB hr hh)) (fun t3 => ?_)
  refine go_iconst (y := mX11_canRebut) (pc := 6) dX11_canRebut_6 ?_
  refine go_icmp_eq (y := mX11_canRebut) (pc := 7) (tgt := 36) dX11_canRebut_7 (by decide) (by omega) (by omega) (fun h7 => ?_) (fun h7 => ?_)
  · skip
    exact J36 (fun w => w.1 h7)
  · skip
    refine go_aload_n (y := mX11_canRebut) (pc := 10) dX11_canRebut_10 rfl rfl ?_
    refine go_iload_n (y := mX11_canRebut) (pc := 11) dX11_canRebut_11 rfl rfl ?_
    refine go_iconst (y := mX11_canRebut) (pc := 12) dX11_canRebut_12 ?_
    refine go_callV2 (y := mX11_canRebut) (pc := 13) (y' := mX11_ofC) (kc2 := 0) (ks2 := 0) dX11_canRebut_13 ml_X11_94 ok_X11_ofC (show shp 276 = _ from rfl) ⟨_, _, rfl⟩ (by decide) ⟨rfl, rfl⟩ (by decide) (Nat.le_of_ble_eq_true rfl) rfl (m_ofC (h := h) (w := 4) (by omega) (by decide) (fun v13 e13 r13 => ?_))
    refine go_top (b := s 20 h) (e13.trans (rhM hr hh h7)) (fun t13 => ?_)
    refine go_iconst (y := mX11_canRebut) (pc := 16) dX11_canRebut_16 ?_
    refine go_icmp_eq (y := mX11_canRebut) (pc := 17) (tgt := 36) dX11_canRebut_17 (by decide) (by omega) (by omega) (fun h17 => ?_) (fun h17 => ?_)
    · skip
      exact J36 (fun w => by have w2 : s 20 h ≤ 0 := w.2.1; omega)
    · skip
      refine go_aload_n (y := mX11_canRebut) (pc := 20) dX11_canRebut_20 rfl rfl ?_
      refine go_callV0 (y := mX11_canRebut) (pc := 21) (y' := mX11_mirrorsLeft) (kc2 := 0) (ks2 := 0) dX11_canRebut_21 ml_X11_366 ok_X11_mirrorsLeft (show shp 276 = _ from rfl) ⟨_, _, rfl⟩ (by decide) trivial (by decide) (Nat.le_of_ble_eq_true rfl) rfl (m_mirrorsLeft hr hS hC (fun v21 e21 b21 => ?_))
      refine go_if_eq (y := mX11_canRebut) (pc := 24) (tgt := 36) dX11_canRebut_24 (by decide) (by omega) (fun h24 => ?_) (fun h24 => ?_)
      · skip
        exact J36 (fun w => by have w2 := w.2.2.1; omega)
      · skip
        refine go_aload_n (y := mX11_canRebut) (pc := 27) dX11_canRebut_27 rfl rfl ?_
        refine go_iload_n (y := mX11_canRebut) (pc := 28) dX11_canRebut_28 rfl rfl ?_
        refine go_callV1 (y := mX11_canRebut) (pc := 29) (y' := mX11_seatOf) (kc2 := 0) (ks2 := 0) dX11_canRebut_29 ml_X11_348 ok_X11_seatOf (show shp 276 = _ from rfl) ⟨_, _, rfl⟩ (by decide) rfl (by decide) (Nat.le_of_ble_eq_true rfl) rfl (m_seatOf (by omega) (by omega) hr hS hC (fun v29 e29 b29 => ?_))
        refine go_iconst (y := mX11_canRebut) (pc := 32) dX11_canRebut_32 ?_
        refine go_icmp_eq (y := mX11_canRebut) (pc := 33) (tgt := 38) dX11_canRebut_33 (by decide) (by omega) (by omega) (fun h33 => ?_) (fun h33 => ?_)
        · skip
          obtain ⟨q, hq⟩ := Int.eq_ofNat_of_zero_le (show 0 ≤ s 17 h by omega)
          have eq : (s 17 h).toNat = q := by omega
          have hsd : s 18 h = 1 ∨ s 18 h = -1 := by omega
          have ht : tkn s m = -1 := e29 ▸ h33
          have hf : 0 < frm S s := by omega
          have hc : crb S s m h ↔ ln s m q * s 18 h < 0 := by
            unfold crb
            rw [eh, em, eq]
            exact ⟨fun w => w.2.2.2.2, fun w => ⟨h7, by omega, hf, ht, w⟩⟩
          refine go_aload_n (y := mX11_canRebut) (pc := 38) dX11_canRebut_38 rfl rfl ?_
          refine go_iload_n (y := mX11_canRebut) (pc := 39) dX11_canRebut_39 rfl rfl ?_
          refine go_aload_n (y := mX11_canRebut) (pc := 40) dX11_canRebut_40 rfl rfl ?_
          refine go_iload_n (y := mX11_canRebut) (pc := 41) dX11_canRebut_41 rfl rfl ?_
          refine go_iconst (y := mX11_canRebut) (pc := 42) dX11_canRebut_42 ?_
          refine go_callV2 (y := mX11_canRebut) (pc := 43) (y' := mX11_ofC) (kc2 := 0) (ks2 := 0) dX11_canRebut_43 ml_X11_94 ok_X11_ofC (show shp 276 = _ from rfl) ⟨_, _, rfl⟩ (by decide) ⟨rfl, rfl⟩ (by decide) (Nat.le_of_ble_eq_true rfl) rfl (m_ofC (h := h) (w := 1) (by omega) (by decide) (fun v43 e43 r43 => ?_))
          refine go_top (b := ((q : Nat) : Int)) ((e43.trans (rhA hr hh h7)).trans hq) (fun t43 => ?_)
          refine go_callV2 (y := mX11_canRebut) (pc := 46) (y' := mX11_leans) (kc2 := 0) (ks2 := 0) dX11_canRebut_46 ml_X11_114 ok_X11_leans (show shp 276 = _ from rfl) ⟨_, _, rfl⟩ (by decide) ⟨rfl, rfl⟩ (by decide) (Nat.le_of_ble_eq_true rfl) rfl (m_leans (m := m) (q := q) (by omega) (by omega) (fun v46 e46 r46 => ?_))
          refine go_top (b := ln s m q) (e46.trans (rqN hr (by omega) hm)) (fun t46 => ?_)
          refine go_istore_n (y := mX11_canRebut) (pc := 49) dX11_canRebut_49 rfl (by decide) ?_
          refine go_aload_n (y := mX11_canRebut) (pc := 50) dX11_canRebut_50 rfl rfl ?_
          refine go_iload_n (y := mX11_canRebut) (pc := 51) dX11_canRebut_51 rfl rfl ?_
          refine go_iconst (y := mX11_canRebut) (pc := 52) dX11_canRebut_52 ?_
          refine go_callV2 (y := mX11_canRebut) (pc := 53) (y' := mX11_ofC) (kc2 := 0) (ks2 := 0) dX11_canRebut_53 ml_X11_94 ok_X11_ofC (show shp 276 = _ from rfl) ⟨_, _, rfl⟩ (by decide) ⟨rfl, rfl⟩ (by decide) (Nat.le_of_ble_eq_true rfl) rfl (m_ofC (h := h) (w := 2) (by omega) (by decide) (fun v53 e53 r53 => ?_))
          refine go_top (b := sdm (s 18 h)) (e53.trans (rhS hr hh h7)) (fun t53 => ?_)
          refine go_iconst (y := mX11_canRebut) (pc := 56) dX11_canRebut_56 ?_
          refine go_icmp_ne (y := mX11_canRebut) (pc := 57) (tgt := 72) dX11_canRebut_57 (by decide) (by have := sdm_b (s 18 h); omega) (by omega) (fun h57 => ?_) (fun h57 => ?_)
          · skip
            have e18 : s 18 h = -1 := by
              rcases hsd with e | e
              · exact absurd (sdm_1.mpr e) h57
              · exact e
            rw [e18] at hc
            refine go_iload_n (y := mX11_canRebut) (pc := 72) dX11_canRebut_72 rfl rfl ?_
            refine go_if_le (y := mX11_canRebut) (pc := 73) (tgt := 80) dX11_canRebut_73 (by decide) (by omega) (fun h73 => ?_) (fun h73 => ?_)
            · skip
              refine go_iconst (y := mX11_canRebut) (pc := 80) dX11_canRebut_80 ?_
              refine go_zreturn (y := mX11_canRebut) (pc := 81) dX11_canRebut_81 rfl (by omega) ?_
              exact K _ (bI_f (fun w => by have := hc.mp w; omega)).symm (by omega)
            · skip
              refine go_iconst (y := mX11_canRebut) (pc := 76) dX11_canRebut_76 ?_
              refine go_goto (y := mX11_canRebut) (pc := 77) (tgt := 81) dX11_canRebut_77 (by decide) ?_
              refine go_zreturn (y := mX11_canRebut) (pc := 81) dX11_canRebut_81 rfl (by omega) ?_
              exact K _ (bI_t (hc.mpr (by omega))).symm (by omega)
          · skip
            have e18 := sdm_1.mp h57
            rw [e18] at hc
            refine go_iload_n (y := mX11_canRebut) (pc := 60) dX11_canRebut_60 rfl rfl ?_
            refine go_if_ge (y := mX11_canRebut) (pc := 61) (tgt := 68) dX11_canRebut_61 (by decide) (by omega) (fun h61 => ?_) (fun h61 => ?_)
            · skip
              refine go_iconst (y := mX11_canRebut) (pc := 68) dX11_canRebut_68 ?_
              refine go_goto (y := mX11_canRebut) (pc := 69) (tgt := 81) dX11_canRebut_69 (by decide) ?_
              refine go_zreturn (y := mX11_canRebut) (pc := 81) dX11_canRebut_81 rfl (by omega) ?_
              exact K _ (bI_f (fun w => by have := hc.mp w; omega)).symm (by omega)
            · skip
              refine go_iconst (y := mX11_canRebut) (pc := 64) dX11_canRebut_64 ?_
              refine go_goto (y := mX11_canRebut) (pc := 65) (tgt := 81) dX11_canRebut_65 (by decide) ?_
              refine go_zreturn (y := mX11_canRebut) (pc := 81) dX11_canRebut_81 rfl (by omega) ?_
              exact K _ (bI_t (hc.mpr (by omega))).symm (by omega)
        · skip
          exact J36 (fun w => h33 (e29.trans w.2.2.2.1))
set_option maxRecDepth 8000 in
set_option maxHeartbeats 4000000 in
theorem m_rebutting {m h : Int} (hm : rng m) (hh : rng h) (h7 : σ 0 7 = 0) (h6 : 0 ≤ σ 0 6 ∧ σ 0 6 ≤ 8) (hr : rel S s ν) (hS : wfS S) (hC : wfC S s) {Q : Option Value → Mem → Prop} {X : String → Mem → Prop} (K : rfRb S s m h = 0 → ∀ ν', rel S (reb s h.toNat) ν' → Q (some (.int (iI (frm S (reb s h.toNat))))) (md (chg σ ν) ν' μ)) (K2 : rfRb S s m h ≠ 0 → Q (some (.int (iI 0))) (md (wr σ 0 7 (t2 (rfRb S s m h))) ν μ)) : mt 289 3 0 0 mX11_rebutting [.ref 276, .int (iI m), .int (iI h)] Q X (md σ ν μ) := by
  show go 289 3 0 0 mX11_rebutting Q X 0 [.ref 276, .int (iI m), .int (iI h)] [] _
  obtain ⟨n1, n12, c1, c4⟩ := wf_n hS
  obtain ⟨q0, q16, r0, r12⟩ := wf_r hS hC
  unfold rfRb at K K2
  have J43 : ∀ ν1 : Nat → Int, ∀ τ : Mem, Q (some (.int (iI 0))) (md τ ν1 μ) → go 289 3 0 0 mX11_rebutting Q X 43 [.ref 276, .int (iI m), .int (iI h)] [] (md τ ν1 μ) := by
    intro ν1 τ hq9
    refine go_iconst (y := mX11_rebutting) (pc := 43) dX11_rebutting_43 ?_
    refine go_ireturn (y := mX11_rebutting) (pc := 44) dX11_rebutting_44 rfl ?_
    exact hq9
  have J22 : ∀ a : Int, (a = 0 ∨ a = 1) → (a = 1 ↔ ((0 ≤ m ∧ m < S 0 7) ∧ (0 ≤ h ∧ h < S 0 0))) → go 289 3 0 0 mX11_rebutting Q X 22 [.ref 276, .int (iI m), .int (iI h)] [.int (iI a), .ref 276] (md σ ν μ) := by
    intro a ga ha
    refine go_iconst (y := mX11_rebutting) (pc := 22) dX11_rebutting_22 ?_
    refine go_callV2 (y := mX11_rebutting) (pc := 23) (y' := mX11_right) (kc2 := 0) (ks2 := 0) dX11_rebutting_23 ml_X11_167 ok_X11_right (show shp 276 = _ from rfl) ⟨_, _, rfl⟩ (by decide) ⟨rfl, rfl⟩ (by decide) (Nat.le_of_ble_eq_true rfl) rfl (m_right h7 (by omega) (by decide) (fun v23 e23 g23 => ?_) (fun g23 => ?_))
    · skip
      have g := ha.mp (by omega)
      rw [if_pos g] at K
      rw [if_pos g] at K2
      obtain ⟨hn, hhn⟩ := Int.eq_ofNat_of_zero_le g.2.1
      obtain ⟨mn, hmn⟩ := Int.eq_ofNat_of_zero_le g.1.1
      subst hhn hmn
      refine go_if_eq (y := mX11_rebutting) (pc := 26) (tgt := 43) dX11_rebutting_26 (by decide) (by omega) (fun h26 => ?_) (fun h26 => ?_)
      · skip
        exact absurd h26 (by omega)
      · skip
        refine go_aload_n (y := mX11_rebutting) (pc := 29) dX11_rebutting_29 rfl rfl ?_
        refine go_aload_n (y := mX11_rebutting) (pc := 30) dX11_rebutting_30 rfl rfl ?_
        refine go_iload_n (y := mX11_rebutting) (pc := 31) dX11_rebutting_31 rfl rfl ?_
        refine go_iload_n (y := mX11_rebutting) (pc := 32) dX11_rebutting_32 rfl rfl ?_
        refine go_callV2 (y := mX11_rebutting) (pc := 33) (y' := mX11_canRebut) (kc2 := 0) (ks2 := 0) dX11_rebutting_33 ml_X11_390 ok_X11_canRebut (show shp 276 = _ from rfl) ⟨_, _, rfl⟩ (by decide) ⟨rfl, rfl⟩ (by decide) (Nat.le_of_ble_eq_true rfl) rfl (m_canRebut (m := mn) (h := hn) (by omega) (by omega) hr hS hC (fun v33 e33 b33 => ?_))
        refine go_iconst (y := mX11_rebutting) (pc := 36) dX11_rebutting_36 ?_
        refine go_callV2 (y := mX11_rebutting) (pc := 37) (y' := mX11_right) (kc2 := 0) (ks2 := 0) dX11_rebutting_37 ml_X11_167 ok_X11_right (show shp 276 = _ from rfl) ⟨_, _, rfl⟩ (by decide) ⟨rfl, rfl⟩ (by decide) (Nat.le_of_ble_eq_true rfl) rfl (m_right h7 (by omega) (by decide) (fun v37 e37 g37 => ?_) (fun g37 => ?_))
        · skip
          have g2 : crb S s mn hn := bI_1 e33 (by omega)
          rw [if_pos g2] at K
          have x1 := rel_reb (h := hn) (v := 1) g.2.2 hr n12 c4 q16 r12
          have e14 : wr s 20 hn 1 0 9 = s 0 9 := wr_na (by decide)
          have x2 := rel_rbs (v := wp (wr s 20 hn 1 0 9 + 1)) x1 n12 c4 (by rw [wr_na (by decide)]; exact q16) (by rw [wr_na (by decide)]; exact r12)
          have hw := wf_reb hS hC g.2.2 g2.1 g2.2.1 g2.2.2.1
          have hk := K rfl _ x2
          refine go_if_ne (y := mX11_rebutting) (pc := 40) (tgt := 45) dX11_rebutting_40 (by decide) (by omega) (fun h40 => ?_) (fun h40 => ?_)
          · skip
            refine go_aload_n (y := mX11_rebutting) (pc := 45) dX11_rebutting_45 rfl rfl ?_
            refine go_callV0 (y := mX11_rebutting) (pc := 46) (y' := mX11_changes) (kc2 := 0) (ks2 := 0) dX11_rebutting_46 ml_X11_387 ok_X11_changes (show shp 276 = _ from rfl) ⟨_, _, rfl⟩ (by decide) trivial (by decide) (Nat.le_of_ble_eq_true rfl) rfl (m_changes (σ := σ) (ν := ν) h6 ?_)
            refine go_aload_n (y := mX11_rebutting) (pc := 49) dX11_rebutting_49 rfl rfl ?_
            refine go_iload_n (y := mX11_rebutting) (pc := 50) dX11_rebutting_50 rfl rfl ?_
            refine go_iconst (y := mX11_rebutting) (pc := 51) dX11_rebutting_51 ?_
            refine go_iconst (y := mX11_rebutting) (pc := 52) dX11_rebutting_52 ?_
            refine go_callV3 (y := mX11_rebutting) (pc := 53) (y' := mX11_putC) (kc2 := 0) (ks2 := 0) dX11_rebutting_53 ml_X11_79 ok_X11_putC (show shp 276 = _ from rfl) ⟨_, _, rfl⟩ (by decide) ⟨rfl, rfl, rfl⟩ (by decide) (Nat.le_of_ble_eq_true rfl) rfl (m_putC (h := hn) (w := 4) (by omega) (by decide) (by omega) ?_)
            refine go_aload_n (y := mX11_rebutting) (pc := 56) dX11_rebutting_56 rfl rfl ?_
            refine go_mref (y := mX11_rebutting) (pc := 57) dX11_rebutting_57 fl_X11_7 rfl rfl (by decide) ?_
            refine go_bipush (y := mX11_rebutting) (pc := 60) dX11_rebutting_60 (by decide) ?_
            refine go_dup2 (y := mX11_rebutting) (pc := 62) dX11_rebutting_62 rfl rfl ?_
            refine go_nial (y := mX11_rebutting) (pc := 63) (k := 14) dX11_rebutting_63 (by decide) rfl (by omega) (fun r63 => ?_)
            refine go_top (b := wr s 20 hn 1 0 9) ((wv_n (by omega)).trans ((rs14 hr).trans e14.symm)) (fun t63 => ?_)
            refine go_iconst (y := mX11_rebutting) (pc := 64) dX11_rebutting_64 ?_
            refine go_iadd (y := mX11_rebutting) (pc := 65) dX11_rebutting_65 ?_
            refine go_niasW (y := mX11_rebutting) (pc := 66) (k := 14) dX11_rebutting_66 (by decide) rfl (by omega)  ?_
            refine go_aload_n (y := mX11_rebutting) (pc := 67) dX11_rebutting_67 rfl rfl ?_
            refine go_callV0 (y := mX11_rebutting) (pc := 68) (y' := mX11_mirrorsLeft) (kc2 := 0) (ks2 := 0) dX11_rebutting_68 ml_X11_366 ok_X11_mirrorsLeft (show shp 276 = _ from rfl) ⟨_, _, rfl⟩ (by decide) trivial (by decide) (Nat.le_of_ble_eq_true rfl) rfl (m_mirrorsLeft x2 hS hw (fun v68 e68 b68 => ?_))
            refine go_ireturn (y := mX11_rebutting) (pc := 71) dX11_rebutting_71 rfl ?_
            rw [e68]
            exact hk
          · skip
            exact absurd h40 (by omega)
        · skip
          rw [if_neg (bI_0 e33 g37)] at K2
          refine go_if_ne (y := mX11_rebutting) (pc := 40) (tgt := 45) dX11_rebutting_40 (by decide) (by omega) (fun h40 => ?_) (fun h40 => ?_)
          · skip
            exact absurd rfl h40
          · skip
            exact J43 _ _ (K2 (by decide))
    · skip
      rw [if_neg (fun w => by have := ha.mpr w; omega)] at K2
      refine go_if_eq (y := mX11_rebutting) (pc := 26) (tgt := 43) dX11_rebutting_26 (by decide) (by omega) (fun h26 => ?_) (fun h26 => ?_)
      · skip
        exact J43 _ _ (K2 (by decide))
      · skip
        exact absurd rfl h26
  have J21 : ¬ ((0 ≤ m ∧ m < S 0 7) ∧ (0 ≤ h ∧ h < S 0 0)) → go 289 3 0 0 mX11_rebutting Q X 21 [.ref 276, .int (iI m), .int (iI h)] [.ref 276] (md σ ν μ) := by
    intro g
    refine go_iconst (y := mX11_rebutting) (pc := 21) dX11_rebutting_21 ?_
    exact J22 0 (by omega) ⟨fun w => absurd w (by decide), fun w => absurd w g⟩
  refine go_aload_n (y := mX11_rebutting) (pc := 0) dX11_rebutting_0 rfl rfl ?_
  refine go_aload_n (y := mX11_rebutting) (pc := 1) dX11_rebutting_1 rfl rfl ?_
  refine go_iload_n (y := mX11_rebutting) (pc := 2) dX11_rebutting_2 rfl rfl ?_
  refine go_callV1 (y := mX11_rebutting) (pc := 3) (y' := mX11_isMember) (kc2 := 0) (ks2 := 0) dX11_rebutting_3 ml_X11_339 ok_X11_isMember (show shp 276 = _ from rfl) ⟨_, _, rfl⟩ (by decide) rfl (by decide) (Nat.le_of_ble_eq_true rfl) rfl (m_isMember (by omega) hr hS (fun v3 e3 b3 => ?_))
  refine go_if_eq (y := mX11_rebutting) (pc := 6) (tgt := 21) dX11_rebutting_6 (by decide) (by omega) (fun h6 => ?_) (fun h6 => ?_)
  · skip
    exact J21 (fun w => bI_0 e3 h6 w.1)
  · skip
    refine go_aload_n (y := mX11_rebutting) (pc := 9) dX11_rebutting_9 rfl rfl ?_
    refine go_iload_n (y := mX11_rebutting) (pc := 10) dX11_rebutting_10 rfl rfl ?_
    refine go_callV1 (y := mX11_rebutting) (pc := 11) (y' := mX11_isChair) (kc2 := 0) (ks2 := 0) dX11_rebutting_11 ml_X11_369 ok_X11_isChair (show shp 276 = _ from rfl) ⟨_, _, rfl⟩ (by decide) rfl (by decide) (Nat.le_of_ble_eq_true rfl) rfl (m_isChair (by omega) hr hS (fun v11 e11 b11 => ?_))
    refine go_if_eq (y := mX11_rebutting) (pc := 14) (tgt := 21) dX11_rebutting_14 (by decide) (by omega) (fun h14 => ?_) (fun h14 => ?_)
    · skip
      exact J21 (fun w => bI_0 e11 h14 w.2)
    · skip
      refine go_iconst (y := mX11_rebutting) (pc := 17) dX11_rebutting_17 ?_
      refine go_goto (y := mX11_rebutting) (pc := 18) (tgt := 22) dX11_rebutting_18 (by decide) ?_
      exact J22 1 (by omega) ⟨fun _ => ⟨bI_1 e3 h6, bI_1 e11 h14⟩, fun _ => rfl⟩
set_option maxRecDepth 8000 in
set_option maxHeartbeats 4000000 in
theorem m_advancing {n : Int} (hn : rng n) (h7 : σ 0 7 = 0) (h6 : 0 ≤ σ 0 6 ∧ σ 0 6 ≤ 8) (hr : rel S s ν) (hS : wfS S) (hC : wfC S s) {Q : Option Value → Mem → Prop} {X : String → Mem → Prop} (K : rfWt s n = 0 → ∀ ν', rel S (pms S s n.toNat).1 ν' → Q (some (.int (iI (pms S s n.toNat).2))) (md (chg σ ν) ν' μ)) (K2 : rfWt s n ≠ 0 → Q (some (.int (iI 0))) (md (wr σ 0 7 (rfWt s n - 1)) ν μ)) : mt 289 6 0 0 mX11_advancing [.ref 276, .int (iI n)] Q X (md σ ν μ) := by
  show go 289 6 0 0 mX11_advancing Q X 0 [.ref 276, .int (iI n), .null, .null] [] _
  obtain ⟨n1, n12, c1, c4⟩ := wf_n hS
  obtain ⟨q0, q16, r0, r12⟩ := wf_r hS hC
  unfold rfWt at K K2
  have J43 : ∀ ν1 : Nat → Int, ∀ τ : Mem, Q (some (.int (iI 0))) (md τ ν1 μ) → go 289 6 0 0 mX11_advancing Q X 43 [.ref 276, .int (iI n), .null, .null] [] (md τ ν1 μ) := by
    intro ν1 τ hq9
    refine go_iconst (y := mX11_advancing) (pc := 43) dX11_advancing_43 ?_
    refine go_ireturn (y := mX11_advancing) (pc := 44) dX11_advancing_44 rfl ?_
    exact hq9
  refine go_aload_n (y := mX11_advancing) (pc := 0) dX11_advancing_0 rfl rfl ?_
  refine go_iload_n (y := mX11_advancing) (pc := 1) dX11_advancing_1 rfl rfl ?_
  refine go_iconst (y := mX11_advancing) (pc := 2) dX11_advancing_2 ?_
  refine go_bipush (y := mX11_advancing) (pc := 3) dX11_advancing_3 (by decide) ?_
  refine go_callS3 (y := mX11_advancing) (pc := 5) (y' := mX11_in) (kc2 := 0) (ks2 := 0) dX11_advancing_5 ml_X11_86 ok_X11_in ⟨rfl, rfl, rfl⟩ (by decide) (Nat.le_of_ble_eq_true rfl) rfl (m_in (by omega) (by omega) (by omega) (fun v5 e5 b5 => ?_))
  refine go_iconst (y := mX11_advancing) (pc := 8) dX11_advancing_8 ?_
  refine go_callV2 (y := mX11_advancing) (pc := 9) (y' := mX11_right) (kc2 := 0) (ks2 := 0) dX11_advancing_9 ml_X11_167 ok_X11_right (show shp 276 = _ from rfl) ⟨_, _, rfl⟩ (by decide) ⟨rfl, rfl⟩ (by decide) (Nat.le_of_ble_eq_true rfl) rfl (m_right h7 (by omega) (by decide) (fun v9 e9 g9 => ?_) (fun g9 => ?_))
  · skip
    have g := bI_1 e5 (by omega)
    rw [if_neg (by omega)] at K
    rw [if_neg (by omega)] at K2
    refine go_if_eq (y := mX11_advancing) (pc := 12) (tgt := 43) dX11_advancing_12 (by decide) (by omega) (fun h12 => ?_) (fun h12 => ?_)
    · skip
      exact absurd h12 (by omega)
    · skip
      refine go_aload_n (y := mX11_advancing) (pc := 15) dX11_advancing_15 rfl rfl ?_
      refine go_aload_n (y := mX11_advancing) (pc := 16) dX11_advancing_16 rfl rfl ?_
      refine go_mref (y := mX11_advancing) (pc := 17) dX11_advancing_17 fl_X11_7 rfl rfl (by decide) ?_
      refine go_bipush (y := mX11_advancing) (pc := 20) dX11_advancing_20 (by decide) ?_
      refine go_nial (y := mX11_advancing) (pc := 22) (k := 7) dX11_advancing_22 (by decide) rfl (by omega) (fun r22 => ?_)
      refine go_top (b := s 0 5) (rs7 hr) (fun t22 => ?_)
      refine go_iload_n (y := mX11_advancing) (pc := 23) dX11_advancing_23 rfl rfl ?_
      refine go_iadd (y := mX11_advancing) (pc := 24) dX11_advancing_24 ?_
      refine go_topI (b := wp (s 0 5 + n)) (iI_wp _).symm ?_
      refine go_sipush (y := mX11_advancing) (pc := 25) dX11_advancing_25 (by decide) ?_
      refine go_icmp_gt (y := mX11_advancing) (pc := 28) (tgt := 35) dX11_advancing_28 (by decide) (wp_rng _) (by decide) (fun h28 => ?_) (fun h28 => ?_)
      · skip
        rw [if_pos (by omega)] at K2
        refine go_iconst (y := mX11_advancing) (pc := 35) dX11_advancing_35 ?_
        refine go_iconst (y := mX11_advancing) (pc := 36) dX11_advancing_36 ?_
        refine go_callV2 (y := mX11_advancing) (pc := 37) (y' := mX11_right) (kc2 := 0) (ks2 := 0) dX11_advancing_37 ml_X11_167 ok_X11_right (show shp 276 = _ from rfl) ⟨_, _, rfl⟩ (by decide) ⟨rfl, rfl⟩ (by decide) (Nat.le_of_ble_eq_true rfl) rfl (m_right h7 (by omega) (by decide) (fun v37 e37 g37 => ?_) (fun g37 => ?_))
        · skip
          exact absurd g37 (by decide)
        · skip
          refine go_if_ne (y := mX11_advancing) (pc := 40) (tgt := 45) dX11_advancing_40 (by decide) (by omega) (fun h40 => ?_) (fun h40 => ?_)
          · skip
            exact absurd rfl h40
          · skip
            exact J43 _ _ (K2 (by decide))
      · skip
        rw [if_neg (by omega)] at K
        obtain ⟨k, hk⟩ := Int.eq_ofNat_of_zero_le (show 0 ≤ n by omega)
        subst hk
        have ek : ((k : Int)).toNat = k := rfl
        rw [ek] at K
        have loop : ∀ (j i : Nat) (ν1 : Nat → Int), i + j = k → rel S (pms S s i).1 ν1 → iI (ν1 17) = iI (ν 17 + (pms S s i).2) → go 289 6 0 0 mX11_advancing Q X 59 [.ref 276, .int (iI (k : Nat)), .int (iI (ν 17)), .int (iI (i : Nat))] [] (md (chg σ ν) ν1 μ) := by
          intro j
          induction j using Nat.strongRecOn with
          | _ j ih =>
            intro i ν1 hi hr1 h17
            have ih' := ih (j - 1)
            have hw := wf_pms hS hC i
            refine go_iload_n (y := mX11_advancing) (pc := 59) dX11_advancing_59 rfl rfl ?_
            refine go_iload_n (y := mX11_advancing) (pc := 60) dX11_advancing_60 rfl rfl ?_
            refine go_icmp_ge (y := mX11_advancing) (pc := 61) (tgt := 74) dX11_advancing_61 (by decide) (by omega) (by omega) (fun h61 => ?_) (fun h61 => ?_)
            · skip
              refine go_aload_n (y := mX11_advancing) (pc := 74) dX11_advancing_74 rfl rfl ?_
              refine go_mref (y := mX11_advancing) (pc := 75) dX11_advancing_75 fl_X11_7 rfl rfl (by decide) ?_
              refine go_bipush (y := mX11_advancing) (pc := 78) dX11_advancing_78 (by decide) ?_
              refine go_nial (y := mX11_advancing) (pc := 80) (k := 17) dX11_advancing_80 (by decide) rfl (by omega) (fun r80 => ?_)
              refine go_iload_n (y := mX11_advancing) (pc := 81) dX11_advancing_81 rfl rfl ?_
              refine go_isub (y := mX11_advancing) (pc := 82) dX11_advancing_82 ?_
              refine go_ireturn (y := mX11_advancing) (pc := 83) dX11_advancing_83 rfl ?_
              have e : i = k := by omega
              subst e
              have h9 := K rfl ν1 hr1
              refine ret_iI h9 ?_
              rw [← iI_sub, h17, iI_sub]
              congr 1; omega
            · skip
              refine go_aload_n (y := mX11_advancing) (pc := 64) dX11_advancing_64 rfl rfl ?_
              refine go_callV0 (y := mX11_advancing) (pc := 65) (y' := mX11_minutePasses) (kc2 := 0) (ks2 := 0) dX11_advancing_65 ml_X11_381 ok_X11_minutePasses (show shp 276 = _ from rfl) ⟨_, _, rfl⟩ (by decide) trivial (by decide) (Nat.le_of_ble_eq_true rfl) rfl (m_minutePasses hS hw.1 hr1 (fun ν65 e65 f65 => ?_))
              refine go_iinc (y := mX11_advancing) (pc := 68) dX11_advancing_68 rfl (by decide) ?_
              refine go_goto (y := mX11_advancing) (pc := 71) (tgt := 59) dX11_advancing_71 (by decide) ?_
              refine ih' (by omega) (i + 1) ν65 (by omega) e65 ?_
              rw [f65, ← iI_add, h17, iI_add]
              show _ = iI (ν 17 + ((pms S s i).2 + pme S (pms S s i).1))
              congr 1; omega
        refine go_iconst (y := mX11_advancing) (pc := 31) dX11_advancing_31 ?_
        refine go_goto (y := mX11_advancing) (pc := 32) (tgt := 36) dX11_advancing_32 (by decide) ?_
        refine go_iconst (y := mX11_advancing) (pc := 36) dX11_advancing_36 ?_
        refine go_callV2 (y := mX11_advancing) (pc := 37) (y' := mX11_right) (kc2 := 0) (ks2 := 0) dX11_advancing_37 ml_X11_167 ok_X11_right (show shp 276 = _ from rfl) ⟨_, _, rfl⟩ (by decide) ⟨rfl, rfl⟩ (by decide) (Nat.le_of_ble_eq_true rfl) rfl (m_right h7 (by omega) (by decide) (fun v37 e37 g37 => ?_) (fun g37 => ?_))
        · skip
          refine go_if_ne (y := mX11_advancing) (pc := 40) (tgt := 45) dX11_advancing_40 (by decide) (by omega) (fun h40 => ?_) (fun h40 => ?_)
          · skip
            refine go_aload_n (y := mX11_advancing) (pc := 45) dX11_advancing_45 rfl rfl ?_
            refine go_callV0 (y := mX11_advancing) (pc := 46) (y' := mX11_changes) (kc2 := 0) (ks2 := 0) dX11_advancing_46 ml_X11_387 ok_X11_changes (show shp 276 = _ from rfl) ⟨_, _, rfl⟩ (by decide) trivial (by decide) (Nat.le_of_ble_eq_true rfl) rfl (m_changes (σ := σ) (ν := ν) h6 ?_)
            refine go_aload_n (y := mX11_advancing) (pc := 49) dX11_advancing_49 rfl rfl ?_
            refine go_mref (y := mX11_advancing) (pc := 50) dX11_advancing_50 fl_X11_7 rfl rfl (by decide) ?_
            refine go_bipush (y := mX11_advancing) (pc := 53) dX11_advancing_53 (by decide) ?_
            refine go_nial (y := mX11_advancing) (pc := 55) (k := 17) dX11_advancing_55 (by decide) rfl (by omega) (fun r55 => ?_)
            refine go_top (b := ν 17) (rfl) (fun t55 => ?_)
            refine go_istore_n (y := mX11_advancing) (pc := 56) dX11_advancing_56 rfl (by decide) ?_
            refine go_iconst (y := mX11_advancing) (pc := 57) dX11_advancing_57 ?_
            refine go_istore_n (y := mX11_advancing) (pc := 58) dX11_advancing_58 rfl (by decide) ?_
            refine loop k 0 ν (by omega) hr ?_
            show _ = iI (ν 17 + 0)
            rw [Int.add_zero]
          · skip
            exact absurd h40 (by omega)
        · skip
          exact absurd g37 (by decide)
  · skip
    rw [if_pos (by have := bI_0 e5 g9; omega)] at K2
    refine go_if_eq (y := mX11_advancing) (pc := 12) (tgt := 43) dX11_advancing_12 (by decide) (by omega) (fun h12 => ?_) (fun h12 => ?_)
    · skip
      exact J43 _ _ (K2 (by decide))
    · skip
      exact absurd rfl h12
set_option maxRecDepth 8000 in
set_option maxHeartbeats 4000000 in
theorem m_votesOf {m q : Nat} {p w : Int} (hp : p = 0 ∨ p = 1) (hw : w = if p = 1 then 1 else -1) (hm : (m : Int) < S 0 7) (hq : (q : Int) < s 5 0) (hr : rel S s ν) (hS : wfS S) (hC : wfC S s) {Q : Option Value → Mem → Prop} {X : String → Mem → Prop} (K : ∀ ν', rel S (hv2 (hv1 s q w m) (vt s m q) w m) ν' → Q none (md σ ν' μ)) : mt 289 2 0 0 mX11_votesOf [.ref 276, .int (iI (m : Nat)), .int (iI (q : Nat)), .int (iI p)] Q X (md σ ν μ) := by
  show go 289 2 0 0 mX11_votesOf Q X 0 [.ref 276, .int (iI (m : Nat)), .int (iI (q : Nat)), .int (iI p)] [] _
  obtain ⟨n1, n12, c1, c4⟩ := wf_n hS
  obtain ⟨q0, q16, r0, r12⟩ := wf_r hS hC
  have hb := hC.2.1 m hm
  refine go_aload_n (y := mX11_votesOf) (pc := 0) dX11_votesOf_0 rfl rfl ?_
  refine go_iload_n (y := mX11_votesOf) (pc := 1) dX11_votesOf_1 rfl rfl ?_
  refine go_iload_n (y := mX11_votesOf) (pc := 2) dX11_votesOf_2 rfl rfl ?_
  refine go_callV2 (y := mX11_votesOf) (pc := 3) (y' := mX11_votes) (kc2 := 0) (ks2 := 0) dX11_votesOf_3 ml_X11_150 ok_X11_votes (show shp 276 = _ from rfl) ⟨_, _, rfl⟩ (by decide) ⟨rfl, rfl⟩ (by decide) (Nat.le_of_ble_eq_true rfl) rfl (m_votes (m := m) (q := q) (by omega) (by omega) hS hC hr (fun v3 e3 b3 => ?_))
  refine go_if_ne (y := mX11_votesOf) (pc := 6) (tgt := 10) dX11_votesOf_6 (by decide) (by omega) (fun h6 => ?_) (fun h6 => ?_)
  · skip
    have g := bI_1 e3 h6
    have hvp := vt_p g
    have hw3 : wp (s 3 m - 1) = s 3 m - 1 := wp_of ⟨by omega, by omega⟩
    have h3 : s 3 m ≠ 0 := by
      intro e
      apply g
      unfold vt
      rw [if_pos (Or.inl e)]
    unfold hv1 at K
    rw [if_neg g, hw3] at K
    have x1 := rel_raz (m := m) (v := s 3 m - 1) hm hr n12 c4 q16 r12
    have J38 : ∀ x : Int, (x = 0 ∨ x = 1) → (x = 1 ↔ 0 < ln s m q) → go 289 2 0 0 mX11_votesOf Q X 38 [.ref 276, .int (iI (m : Nat)), .int (iI (q : Nat)), .int (iI p)] [.int (iI x)] (md σ (wv ν (18 + 6 * m + 4) (s 3 m - 1)) μ) := by
      intro x gx hx
      have hvw : vt s m q = w ↔ x = p := by
        rw [hw]
        constructor
        · intro e
          rcases hp with e1 | e1 <;> rcases gx with e2 | e2 <;> subst e1 <;> subst e2 <;> first | rfl | (exfalso; rw [if_pos rfl] at e; have := hvp.2 (by omega); omega) | (exfalso; rw [if_neg (by decide)] at e; have := hvp.1 (by omega); omega)
        · intro e
          rcases hp with e1 | e1 <;> rcases gx with e2 | e2 <;> subst e1 <;> subst e2 <;> first | exact absurd e (by decide) | (rw [if_pos rfl]; exact hvp.1 (by omega)) | (rw [if_neg (by decide)]; exact hvp.2 (by omega))
      have J51 : ¬ (vt s m q = w ∧ 0 < wr s 3 m (s 3 m - 1) 2 m) → go 289 2 0 0 mX11_votesOf Q X 51 [.ref 276, .int (iI (m : Nat)), .int (iI (q : Nat)), .int (iI p)] [] (md σ (wv ν (18 + 6 * m + 4) (s 3 m - 1)) μ) := by
        intro g9
        unfold hv2 at K
        rw [if_neg g9] at K
        refine go_return (y := mX11_votesOf) (pc := 51) dX11_votesOf_51 rfl ?_
        exact K _ x1
      refine go_iload_n (y := mX11_votesOf) (pc := 38) dX11_votesOf_38 rfl rfl ?_
      refine go_icmp_ne (y := mX11_votesOf) (pc := 39) (tgt := 51) dX11_votesOf_39 (by decide) (by omega) (by omega) (fun h39 => ?_) (fun h39 => ?_)
      · skip
        exact J51 (fun w9 => h39 (hvw.mp w9.1))
      · skip
        refine go_aload_n (y := mX11_votesOf) (pc := 42) dX11_votesOf_42 rfl rfl ?_
        refine go_iload_n (y := mX11_votesOf) (pc := 43) dX11_votesOf_43 rfl rfl ?_
        refine go_iconst (y := mX11_votesOf) (pc := 44) dX11_votesOf_44 ?_
        refine go_callV2 (y := mX11_votesOf) (pc := 45) (y' := mX11_of) (kc2 := 0) (ks2 := 0) dX11_votesOf_45 ml_X11_100 ok_X11_of (show shp 276 = _ from rfl) ⟨_, _, rfl⟩ (by decide) ⟨rfl, rfl⟩ (by decide) (Nat.le_of_ble_eq_true rfl) rfl (m_of (m := m) (w := 3) (by omega) (by decide) (fun v45 e45 r45 => ?_))
        refine go_top (b := s 2 m) (e45.trans ((wv_n (by omega)).trans (rlC hr hm))) (fun t45 => ?_)
        refine go_if_ne (y := mX11_votesOf) (pc := 48) (tgt := 52) dX11_votesOf_48 (by decide) (by omega) (fun h48 => ?_) (fun h48 => ?_)
        · skip
          have hpos : vt s m q = w ∧ 0 < wr s 3 m (s 3 m - 1) 2 m := ⟨hvw.mpr h39, by rw [wr_na (by decide)]; omega⟩
          unfold hv2 at K
          rw [if_pos hpos, wr_na (by decide : (2 : Nat) ≠ 3), wr_na (by decide : (0 : Nat) ≠ 3), show wp (s 2 m - 1) = s 2 m - 1 from wp_of ⟨by omega, by omega⟩] at K
          have x2 := rel_pur (m := m) (v := s 2 m - 1) hm x1 n12 c4 (by rw [wr_na (by decide)]; exact q16) (by rw [wr_na (by decide)]; exact r12)
          have x3 := rel_tip (v := wp (s 0 7 + 1)) x2 n12 c4 (by rw [wr_na (by decide), wr_na (by decide)]; exact q16) (by rw [wr_na (by decide), wr_na (by decide)]; exact r12)
          refine go_aload_n (y := mX11_votesOf) (pc := 52) dX11_votesOf_52 rfl rfl ?_
          refine go_iload_n (y := mX11_votesOf) (pc := 53) dX11_votesOf_53 rfl rfl ?_
          refine go_iconst (y := mX11_votesOf) (pc := 54) dX11_votesOf_54 ?_
          refine go_aload_n (y := mX11_votesOf) (pc := 55) dX11_votesOf_55 rfl rfl ?_
          refine go_iload_n (y := mX11_votesOf) (pc := 56) dX11_votesOf_56 rfl rfl ?_
          refine go_iconst (y := mX11_votesOf) (pc := 57) dX11_votesOf_57 ?_
          refine go_callV2 (y := mX11_votesOf) (pc := 58) (y' := mX11_of) (kc2 := 0) (ks2 := 0) dX11_votesOf_58 ml_X11_100 ok_X11_of (show shp 276 = _ from rfl) ⟨_, _, rfl⟩ (by decide) ⟨rfl, rfl⟩ (by decide) (Nat.le_of_ble_eq_true rfl) rfl (m_of (m := m) (w := 3) (by omega) (by decide) (fun v58 e58 r58 => ?_))
          refine go_top (b := s 2 m) (e58.trans ((wv_n (by omega)).trans (rlC hr hm))) (fun t58 => ?_)
          refine go_iconst (y := mX11_votesOf) (pc := 61) dX11_votesOf_61 ?_
          refine go_isub (y := mX11_votesOf) (pc := 62) dX11_votesOf_62 ?_
          refine go_callV3 (y := mX11_votesOf) (pc := 63) (y' := mX11_puts) (kc2 := 0) (ks2 := 0) dX11_votesOf_63 ml_X11_138 ok_X11_puts (show shp 276 = _ from rfl) ⟨_, _, rfl⟩ (by decide) ⟨rfl, rfl, rfl⟩ (by decide) (Nat.le_of_ble_eq_true rfl) rfl (m_puts (m := m) (w := 3) (by omega) (by decide) (by omega) ?_)
          refine go_aload_n (y := mX11_votesOf) (pc := 66) dX11_votesOf_66 rfl rfl ?_
          refine go_mref (y := mX11_votesOf) (pc := 67) dX11_votesOf_67 fl_X11_7 rfl rfl (by decide) ?_
          refine go_bipush (y := mX11_votesOf) (pc := 70) dX11_votesOf_70 (by decide) ?_
          refine go_dup2 (y := mX11_votesOf) (pc := 72) dX11_votesOf_72 rfl rfl ?_
          refine go_nial (y := mX11_votesOf) (pc := 73) (k := 12) dX11_votesOf_73 (by decide) rfl (by omega) (fun r73 => ?_)
          refine go_top (b := s 0 7) (((wv_n (by omega)).trans (wv_n (by omega))).trans (rs12 hr)) (fun t73 => ?_)
          refine go_iconst (y := mX11_votesOf) (pc := 74) dX11_votesOf_74 ?_
          refine go_iadd (y := mX11_votesOf) (pc := 75) dX11_votesOf_75 ?_
          refine go_niasW (y := mX11_votesOf) (pc := 76) (k := 12) dX11_votesOf_76 (by decide) rfl (by omega)  ?_
          refine go_return (y := mX11_votesOf) (pc := 77) dX11_votesOf_77 rfl ?_
          exact K _ x3
        · skip
          exact J51 (fun w9 => by have := w9.2; rw [wr_na (by decide)] at this; omega)
    refine go_aload_n (y := mX11_votesOf) (pc := 10) dX11_votesOf_10 rfl rfl ?_
    refine go_iload_n (y := mX11_votesOf) (pc := 11) dX11_votesOf_11 rfl rfl ?_
    refine go_iconst (y := mX11_votesOf) (pc := 12) dX11_votesOf_12 ?_
    refine go_aload_n (y := mX11_votesOf) (pc := 13) dX11_votesOf_13 rfl rfl ?_
    refine go_iload_n (y := mX11_votesOf) (pc := 14) dX11_votesOf_14 rfl rfl ?_
    refine go_iconst (y := mX11_votesOf) (pc := 15) dX11_votesOf_15 ?_
    refine go_callV2 (y := mX11_votesOf) (pc := 16) (y' := mX11_of) (kc2 := 0) (ks2 := 0) dX11_votesOf_16 ml_X11_100 ok_X11_of (show shp 276 = _ from rfl) ⟨_, _, rfl⟩ (by decide) ⟨rfl, rfl⟩ (by decide) (Nat.le_of_ble_eq_true rfl) rfl (m_of (m := m) (w := 4) (by omega) (by decide) (fun v16 e16 r16 => ?_))
    refine go_top (b := s 3 m) (e16.trans (rlR hr hm)) (fun t16 => ?_)
    refine go_iconst (y := mX11_votesOf) (pc := 19) dX11_votesOf_19 ?_
    refine go_isub (y := mX11_votesOf) (pc := 20) dX11_votesOf_20 ?_
    refine go_callV3 (y := mX11_votesOf) (pc := 21) (y' := mX11_puts) (kc2 := 0) (ks2 := 0) dX11_votesOf_21 ml_X11_138 ok_X11_puts (show shp 276 = _ from rfl) ⟨_, _, rfl⟩ (by decide) ⟨rfl, rfl, rfl⟩ (by decide) (Nat.le_of_ble_eq_true rfl) rfl (m_puts (m := m) (w := 4) (by omega) (by decide) (by omega) ?_)
    refine go_aload_n (y := mX11_votesOf) (pc := 24) dX11_votesOf_24 rfl rfl ?_
    refine go_iload_n (y := mX11_votesOf) (pc := 25) dX11_votesOf_25 rfl rfl ?_
    refine go_iload_n (y := mX11_votesOf) (pc := 26) dX11_votesOf_26 rfl rfl ?_
    refine go_callV2 (y := mX11_votesOf) (pc := 27) (y' := mX11_leans) (kc2 := 0) (ks2 := 0) dX11_votesOf_27 ml_X11_114 ok_X11_leans (show shp 276 = _ from rfl) ⟨_, _, rfl⟩ (by decide) ⟨rfl, rfl⟩ (by decide) (Nat.le_of_ble_eq_true rfl) rfl (m_leans (m := m) (q := q) (by omega) (by omega) (fun v27 e27 r27 => ?_))
    refine go_top (b := ln s m q) (e27.trans ((wv_n (by omega)).trans (rqN hr hq hm))) (fun t27 => ?_)
    refine go_if_le (y := mX11_votesOf) (pc := 30) (tgt := 37) dX11_votesOf_30 (by decide) (by omega) (fun h30 => ?_) (fun h30 => ?_)
    · skip
      refine go_iconst (y := mX11_votesOf) (pc := 37) dX11_votesOf_37 ?_
      exact J38 0 (by omega) (by omega)
    · skip
      refine go_iconst (y := mX11_votesOf) (pc := 33) dX11_votesOf_33 ?_
      refine go_goto (y := mX11_votesOf) (pc := 34) (tgt := 38) dX11_votesOf_34 (by decide) ?_
      exact J38 1 (by omega) (by omega)
  · skip
    refine go_return (y := mX11_votesOf) (pc := 9) dX11_votesOf_9 rfl ?_
    have g : vt s m q = 0 := by
      have := bI_0 e3 h6
      by_cases w9 : vt s m q = 0
      · exact w9
      · exact absurd w9 this
    unfold hv2 hv1 at K
    rw [if_pos g, if_neg (fun w9 => by have := w9.1; rw [g, hw] at this; split at this <;> omega)] at K
    exact K ν hr
set_option maxRecDepth 8000 in
set_option maxHeartbeats 4000000 in
theorem m_voting {q : Int} (hq : rng q) (h7 : σ 0 7 = 0) (h6 : 0 ≤ σ 0 6 ∧ σ 0 6 ≤ 8) (hr : rel S s ν) (hS : wfS S) (hC : wfC S s) {Q : Option Value → Mem → Prop} {X : String → Mem → Prop} (K : rfVt S s q = 0 → ∀ ν', rel S (hvo S s q.toNat) ν' → Q (some (.int (iI (bI (0 < mgn S s q.toNat))))) (md (chg σ ν) ν' μ)) (K2 : rfVt S s q ≠ 0 → Q (some (.int (iI 0))) (md (wr σ 0 7 (t2 (rfVt S s q))) ν μ)) : mt 289 4 0 0 mX11_voting [.ref 276, .int (iI q)] Q X (md σ ν μ) := by
  show go 289 4 0 0 mX11_voting Q X 0 [.ref 276, .int (iI q), .null, .null] [] _
  obtain ⟨n1, n12, c1, c4⟩ := wf_n hS
  obtain ⟨q0, q16, r0, r12⟩ := wf_r hS hC
  unfold rfVt at K K2
  have J34 : ∀ ν1 : Nat → Int, ∀ τ : Mem, Q (some (.int (iI 0))) (md τ ν1 μ) → go 289 4 0 0 mX11_voting Q X 34 [.ref 276, .int (iI q), .null, .null] [] (md τ ν1 μ) := by
    intro ν1 τ hq9
    refine go_iconst (y := mX11_voting) (pc := 34) dX11_voting_34 ?_
    refine go_ireturn (y := mX11_voting) (pc := 35) dX11_voting_35 rfl ?_
    exact hq9
  refine go_aload_n (y := mX11_voting) (pc := 0) dX11_voting_0 rfl rfl ?_
  refine go_aload_n (y := mX11_voting) (pc := 1) dX11_voting_1 rfl rfl ?_
  refine go_iload_n (y := mX11_voting) (pc := 2) dX11_voting_2 rfl rfl ?_
  refine go_callV1 (y := mX11_voting) (pc := 3) (y' := mX11_isMotion) (kc2 := 0) (ks2 := 0) dX11_voting_3 ml_X11_345 ok_X11_isMotion (show shp 276 = _ from rfl) ⟨_, _, rfl⟩ (by decide) rfl (by decide) (Nat.le_of_ble_eq_true rfl) rfl (m_isMotion (by omega) hr hC (fun v3 e3 b3 => ?_))
  refine go_iconst (y := mX11_voting) (pc := 6) dX11_voting_6 ?_
  refine go_callV2 (y := mX11_voting) (pc := 7) (y' := mX11_right) (kc2 := 0) (ks2 := 0) dX11_voting_7 ml_X11_167 ok_X11_right (show shp 276 = _ from rfl) ⟨_, _, rfl⟩ (by decide) ⟨rfl, rfl⟩ (by decide) (Nat.le_of_ble_eq_true rfl) rfl (m_right h7 (by omega) (by decide) (fun v7 e7 g7 => ?_) (fun g7 => ?_))
  · skip
    have g : 0 ≤ q ∧ q < s 5 0 := bI_1 e3 (by omega)
    rw [if_pos g] at K
    rw [if_pos g] at K2
    obtain ⟨k, hk⟩ := Int.eq_ofNat_of_zero_le g.1
    subst hk
    have ek : ((k : Int)).toNat = k := rfl
    rw [ek] at K
    have hob : obo S s k = 0 ↔ obs S s k = 0 := by
      show (if opn s (k : Int) then obs S s k else 1) = 0 ↔ obs S s k = 0
      by_cases w : opn s k
      · rw [if_pos w]
      · rw [if_neg w]
        have h7k : s 7 k ≠ 0 := fun e => w ⟨g.1, g.2, e⟩
        unfold obs
        rw [if_pos h7k]
    refine go_if_eq (y := mX11_voting) (pc := 10) (tgt := 34) dX11_voting_10 (by decide) (by omega) (fun h10 => ?_) (fun h10 => ?_)
    · skip
      exact absurd h10 (by omega)
    · skip
      refine go_aload_n (y := mX11_voting) (pc := 13) dX11_voting_13 rfl rfl ?_
      refine go_aload_n (y := mX11_voting) (pc := 14) dX11_voting_14 rfl rfl ?_
      refine go_iload_n (y := mX11_voting) (pc := 15) dX11_voting_15 rfl rfl ?_
      refine go_callV1 (y := mX11_voting) (pc := 16) (y' := mX11_prevents) (kc2 := 0) (ks2 := 0) dX11_voting_16 ml_X11_357 ok_X11_prevents (show shp 276 = _ from rfl) ⟨_, _, rfl⟩ (by decide) rfl (by decide) (Nat.le_of_ble_eq_true rfl) rfl (m_prevents (q := k) (by omega) hS hC hr (fun v16 e16 b16 => ?_))
      refine go_if_ne (y := mX11_voting) (pc := 19) (tgt := 26) dX11_voting_19 (by decide) (by omega) (fun h19 => ?_) (fun h19 => ?_)
      · skip
        rw [if_neg (fun w => h19 (e16.trans (hob.mp w)))] at K2
        refine go_iconst (y := mX11_voting) (pc := 26) dX11_voting_26 ?_
        refine go_iconst (y := mX11_voting) (pc := 27) dX11_voting_27 ?_
        refine go_callV2 (y := mX11_voting) (pc := 28) (y' := mX11_right) (kc2 := 0) (ks2 := 0) dX11_voting_28 ml_X11_167 ok_X11_right (show shp 276 = _ from rfl) ⟨_, _, rfl⟩ (by decide) ⟨rfl, rfl⟩ (by decide) (Nat.le_of_ble_eq_true rfl) rfl (m_right h7 (by omega) (by decide) (fun v28 e28 g28 => ?_) (fun g28 => ?_))
        · skip
          exact absurd g28 (by decide)
        · skip
          refine go_if_ne (y := mX11_voting) (pc := 31) (tgt := 36) dX11_voting_31 (by decide) (by omega) (fun h31 => ?_) (fun h31 => ?_)
          · skip
            exact absurd rfl h31
          · skip
            exact J34 _ _ (K2 (by decide))
      · skip
        rw [if_pos (hob.mpr (e16 ▸ h19))] at K
        have J48 : ∀ p w : Int, p = bI (0 < mgn S s k) → (w = if 0 < mgn S s k then 1 else -1) → (p = 0 ∨ p = 1) → ∀ (n i : Nat) (ν1 : Nat → Int), (i : Int) + n = S 0 7 → rel S (hvk s k w i) ν1 → go 289 4 0 0 mX11_voting Q X 48 [.ref 276, .int (iI (k : Nat)), .int (iI p), .int (iI (i : Nat))] [] (md (chg σ ν) ν1 μ) := by
          intro p w hp hw gp n
          have hw2 : w = if p = 1 then 1 else -1 := by
            rw [hw, hp]
            unfold bI
            by_cases c : 0 < mgn S s k
            · rw [if_pos c, if_pos c, if_pos rfl]
            · rw [if_neg c, if_neg c, if_neg (by decide)]
          induction n using Nat.strongRecOn with
          | _ n ih =>
            intro i ν1 hi hr1
            have ih' := ih (n - 1)
            have hwf := wf_hvk (q := k) (w := w) hC i (by omega)
            have o5 : hvk s k w i 5 0 = s 5 0 := hvk_o (by decide) i
            have o11 : hvk s k w i 11 0 = s 11 0 := hvk_o (by decide) i
            refine go_iload_n (y := mX11_voting) (pc := 48) dX11_voting_48 rfl rfl ?_
            refine go_aload_n (y := mX11_voting) (pc := 49) dX11_voting_49 rfl rfl ?_
            refine go_mref (y := mX11_voting) (pc := 50) dX11_voting_50 fl_X11_7 rfl rfl (by decide) ?_
            refine go_bipush (y := mX11_voting) (pc := 53) dX11_voting_53 (by decide) ?_
            refine go_nial (y := mX11_voting) (pc := 55) (k := 8) dX11_voting_55 (by decide) rfl (by omega) (fun r55 => ?_)
            refine go_top (b := S 0 7) (rs8 hr1) (fun t55 => ?_)
            refine go_icmp_ge (y := mX11_voting) (pc := 56) (tgt := 72) dX11_voting_56 (by decide) (by omega) (by omega) (fun h56 => ?_) (fun h56 => ?_)
            · skip
              have e : i = (S 0 7).toNat := by omega
              subst e
              have J84 : ∀ st : Int, (st = if 0 < mgn S s k then 1 else 2) → (st = 1 ∨ st = 2) → go 289 4 0 0 mX11_voting Q X 84 [.ref 276, .int (iI (k : Nat)), .int (iI p), .int (iI ((S 0 7).toNat : Nat))] [.int (iI st), .int (iI 3), .int (iI (k : Nat)), .ref 276] (md (chg σ ν) ν1 μ) := by
                intro st hst gst
                have x1 := rel_stat (q := k) (v := st) (by rw [o5]; omega) hr1 n12 c4 (by rw [o5]; exact q16) (by rw [o11]; exact r12)
                have e8 : wr (hvk s k w (S 0 7).toNat) 7 k st 0 8 = hvk s k w (S 0 7).toNat 0 8 := wr_na (by decide)
                have x2 := rel_vts (v := wp (hvk s k w (S 0 7).toNat 0 8 + 1)) x1 n12 c4 (by rw [wr_na (by decide), o5]; exact q16) (by rw [wr_na (by decide), o11]; exact r12)
                have hwf2 : wfC S (wr (wr (hvk s k w (S 0 7).toNat) 7 k st) 0 8 (wp (hvk s k w (S 0 7).toNat 0 8 + 1))) := wf_w (wf_w hwf (by omega)) (by omega)
                have x3 := rel_cab (q := (k : Int)) x2 hS hwf2
                rw [cab_w0] at x3
                have o11b : wr (wr (hvk s k w (S 0 7).toNat) 7 k st) 0 8 (wp (hvk s k w (S 0 7).toNat 0 8 + 1)) 11 0 = s 11 0 := by rw [wr_na (by decide), wr_na (by decide), o11]
                rw [o11b] at x3
                have n11 : wv (wv ν1 (90 + 5 * k + 3) st) 13 (wp (hvk s k w (S 0 7).toNat 0 8 + 1)) 11 = s 11 0 := (rs11 x2).trans o11b
                have x4 : rel S (hvo S s k) (dra (k : Int) (s 11 0).toNat (wv (wv ν1 (90 + 5 * k + 3) st) 13 (wp (hvk s k w (S 0 7).toNat 0 8 + 1)))) := by
                  have := x3.1
                  unfold hvo clo
                  rw [← hw, ← hst]
                  have e9 : cab (wr (hvk s k w (S 0 7).toNat) 7 k st) k 0 8 = hvk s k w (S 0 7).toNat 0 8 := by rw [cab_o (by decide), wr_na (by decide)]
                  show rel S (wr (cab (wr (hvk s k w (S 0 7).toNat) 7 k st) k) 0 8 (wp (cab (wr (hvk s k w (S 0 7).toNat) 7 k st) k 0 8 + 1))) _
                  rw [e9]
                  exact this
                have hk := K rfl _ x4
                rw [← hp] at hk
                refine go_callV3 (y := mX11_voting) (pc := 84) (y' := mX11_putM) (kc2 := 0) (ks2 := 0) dX11_voting_84 ml_X11_132 ok_X11_putM (show shp 276 = _ from rfl) ⟨_, _, rfl⟩ (by decide) ⟨rfl, rfl, rfl⟩ (by decide) (Nat.le_of_ble_eq_true rfl) rfl (m_putM (q := k) (w := 3) (by omega) (by decide) (by omega) ?_)
                refine go_aload_n (y := mX11_voting) (pc := 87) dX11_voting_87 rfl rfl ?_
                refine go_mref (y := mX11_voting) (pc := 88) dX11_voting_88 fl_X11_7 rfl rfl (by decide) ?_
                refine go_bipush (y := mX11_voting) (pc := 91) dX11_voting_91 (by decide) ?_
                refine go_dup2 (y := mX11_voting) (pc := 93) dX11_voting_93 rfl rfl ?_
                refine go_nial (y := mX11_voting) (pc := 94) (k := 13) dX11_voting_94 (by decide) rfl (by omega) (fun r94 => ?_)
                refine go_top (b := hvk s k w (S 0 7).toNat 0 8) ((wv_n (by omega)).trans (rs13 hr1)) (fun t94 => ?_)
                refine go_iconst (y := mX11_voting) (pc := 95) dX11_voting_95 ?_
                refine go_iadd (y := mX11_voting) (pc := 96) dX11_voting_96 ?_
                refine go_niasW (y := mX11_voting) (pc := 97) (k := 13) dX11_voting_97 (by decide) rfl (by omega)  ?_
                refine go_aload_n (y := mX11_voting) (pc := 98) dX11_voting_98 rfl rfl ?_
                refine go_iload_n (y := mX11_voting) (pc := 99) dX11_voting_99 rfl rfl ?_
                refine go_callV1 (y := mX11_voting) (pc := 100) (y' := mX11_dropsAll) (kc2 := 0) (ks2 := 0) dX11_voting_100 ml_X11_397 ok_X11_dropsAll (show shp 276 = _ from rfl) ⟨_, _, rfl⟩ (by decide) rfl (by decide) (Nat.le_of_ble_eq_true rfl) rfl (m_dropsAll (q := (k : Int)) (by omega) (by rw [n11]; exact r0) (by rw [n11]; exact r12) ?_)
                rw [n11]
                refine go_istore_n (y := mX11_voting) (pc := 103) dX11_voting_103 rfl (by decide) ?_
                refine go_iload_n (y := mX11_voting) (pc := 104) dX11_voting_104 rfl rfl ?_
                refine go_if_eq (y := mX11_voting) (pc := 105) (tgt := 112) dX11_voting_105 (by decide) (by omega) (fun h105 => ?_) (fun h105 => ?_)
                · skip
                  refine go_iconst (y := mX11_voting) (pc := 112) dX11_voting_112 ?_
                  refine go_ireturn (y := mX11_voting) (pc := 113) dX11_voting_113 rfl ?_
                  obtain rfl : p = 0 := h105
                  exact hk
                · skip
                  refine go_iconst (y := mX11_voting) (pc := 108) dX11_voting_108 ?_
                  refine go_goto (y := mX11_voting) (pc := 109) (tgt := 113) dX11_voting_109 (by decide) ?_
                  refine go_ireturn (y := mX11_voting) (pc := 113) dX11_voting_113 rfl ?_
                  obtain rfl : p = 1 := by omega
                  exact hk
              refine go_aload_n (y := mX11_voting) (pc := 72) dX11_voting_72 rfl rfl ?_
              refine go_iload_n (y := mX11_voting) (pc := 73) dX11_voting_73 rfl rfl ?_
              refine go_iconst (y := mX11_voting) (pc := 74) dX11_voting_74 ?_
              refine go_iload_n (y := mX11_voting) (pc := 75) dX11_voting_75 rfl rfl ?_
              refine go_if_eq (y := mX11_voting) (pc := 76) (tgt := 83) dX11_voting_76 (by decide) (by omega) (fun h76 => ?_) (fun h76 => ?_)
              · skip
                refine go_iconst (y := mX11_voting) (pc := 83) dX11_voting_83 ?_
                refine J84 2 ?_ (by omega)
                rw [if_neg (bI_0 hp h76)]
              · skip
                refine go_iconst (y := mX11_voting) (pc := 79) dX11_voting_79 ?_
                refine go_goto (y := mX11_voting) (pc := 80) (tgt := 84) dX11_voting_80 (by decide) ?_
                refine J84 1 ?_ (by omega)
                rw [if_pos (bI_1 hp h76)]
            · skip
              refine go_aload_n (y := mX11_voting) (pc := 59) dX11_voting_59 rfl rfl ?_
              refine go_iload_n (y := mX11_voting) (pc := 60) dX11_voting_60 rfl rfl ?_
              refine go_iload_n (y := mX11_voting) (pc := 61) dX11_voting_61 rfl rfl ?_
              refine go_iload_n (y := mX11_voting) (pc := 62) dX11_voting_62 rfl rfl ?_
              refine go_callV3 (y := mX11_voting) (pc := 63) (y' := mX11_votesOf) (kc2 := 0) (ks2 := 0) dX11_voting_63 ml_X11_393 ok_X11_votesOf (show shp 276 = _ from rfl) ⟨_, _, rfl⟩ (by decide) ⟨rfl, rfl, rfl⟩ (by decide) (Nat.le_of_ble_eq_true rfl) rfl (m_votesOf (m := i) (q := k) (w := w) gp hw2 (by omega) (by rw [o5]; omega) hr1 hS hwf (fun ν63 e63 => ?_))
              refine go_iinc (y := mX11_voting) (pc := 66) dX11_voting_66 rfl (by decide) ?_
              refine go_goto (y := mX11_voting) (pc := 69) (tgt := 48) dX11_voting_69 (by decide) ?_
              exact ih' (by omega) (i + 1) ν63 (by omega) e63
        refine go_iconst (y := mX11_voting) (pc := 22) dX11_voting_22 ?_
        refine go_goto (y := mX11_voting) (pc := 23) (tgt := 27) dX11_voting_23 (by decide) ?_
        refine go_iconst (y := mX11_voting) (pc := 27) dX11_voting_27 ?_
        refine go_callV2 (y := mX11_voting) (pc := 28) (y' := mX11_right) (kc2 := 0) (ks2 := 0) dX11_voting_28 ml_X11_167 ok_X11_right (show shp 276 = _ from rfl) ⟨_, _, rfl⟩ (by decide) ⟨rfl, rfl⟩ (by decide) (Nat.le_of_ble_eq_true rfl) rfl (m_right h7 (by omega) (by decide) (fun v28 e28 g28 => ?_) (fun g28 => ?_))
        · skip
          refine go_if_ne (y := mX11_voting) (pc := 31) (tgt := 36) dX11_voting_31 (by decide) (by omega) (fun h31 => ?_) (fun h31 => ?_)
          · skip
            refine go_aload_n (y := mX11_voting) (pc := 36) dX11_voting_36 rfl rfl ?_
            refine go_callV0 (y := mX11_voting) (pc := 37) (y' := mX11_changes) (kc2 := 0) (ks2 := 0) dX11_voting_37 ml_X11_387 ok_X11_changes (show shp 276 = _ from rfl) ⟨_, _, rfl⟩ (by decide) trivial (by decide) (Nat.le_of_ble_eq_true rfl) rfl (m_changes (σ := σ) (ν := ν) h6 ?_)
            refine go_aload_n (y := mX11_voting) (pc := 40) dX11_voting_40 rfl rfl ?_
            refine go_iload_n (y := mX11_voting) (pc := 41) dX11_voting_41 rfl rfl ?_
            refine go_callV1 (y := mX11_voting) (pc := 42) (y' := mX11_passes) (kc2 := 0) (ks2 := 0) dX11_voting_42 ml_X11_360 ok_X11_passes (show shp 276 = _ from rfl) ⟨_, _, rfl⟩ (by decide) rfl (by decide) (Nat.le_of_ble_eq_true rfl) rfl (m_passes (q := k) (by omega) hS hC hr (fun v42 e42 b42 => ?_))
            refine go_istore_n (y := mX11_voting) (pc := 45) dX11_voting_45 rfl (by decide) ?_
            refine go_iconst (y := mX11_voting) (pc := 46) dX11_voting_46 ?_
            refine go_istore_n (y := mX11_voting) (pc := 47) dX11_voting_47 rfl (by decide) ?_
            exact J48 v42 _ e42 rfl b42 (S 0 7).toNat 0 ν (by omega) hr
          · skip
            exact absurd h31 (by omega)
        · skip
          exact absurd g28 (by decide)
  · skip
    rw [if_neg (bI_0 e3 g7)] at K2
    refine go_if_eq (y := mX11_voting) (pc := 10) (tgt := 34) dX11_voting_10 (by decide) (by omega) (fun h10 => ?_) (fun h10 => ?_)
    · skip
      exact J34 _ _ (K2 (by decide))
    · skip
      exact absurd rfl h10
set_option maxRecDepth 8000 in
set_option maxHeartbeats 4000000 in
theorem m_withdrawing {q : Int} (hq : rng q) (h7 : σ 0 7 = 0) (h6 : 0 ≤ σ 0 6 ∧ σ 0 6 ≤ 8) (hr : rel S s ν) (hS : wfS S) (hC : wfC S s) {Q : Option Value → Mem → Prop} {X : String → Mem → Prop} (K : rfWd s q = 0 → ∀ ν', rel S (clo s q.toNat 3) ν' → Q (some (.int (iI (s 11 0 - clo s q.toNat 3 11 0)))) (md (chg σ ν) ν' μ)) (K2 : rfWd s q ≠ 0 → Q (some (.int (iI 0))) (md (wr σ 0 7 (t2 (rfWd s q))) ν μ)) : mt 289 2 0 0 mX11_withdrawing [.ref 276, .int (iI q)] Q X (md σ ν μ) := by
  show go 289 2 0 0 mX11_withdrawing Q X 0 [.ref 276, .int (iI q)] [] _
  obtain ⟨n1, n12, c1, c4⟩ := wf_n hS
  obtain ⟨q0, q16, r0, r12⟩ := wf_r hS hC
  unfold rfWd at K K2
  have J42 : ∀ ν1 : Nat → Int, ∀ τ : Mem, Q (some (.int (iI 0))) (md τ ν1 μ) → go 289 2 0 0 mX11_withdrawing Q X 42 [.ref 276, .int (iI q)] [] (md τ ν1 μ) := by
    intro ν1 τ hq9
    refine go_iconst (y := mX11_withdrawing) (pc := 42) dX11_withdrawing_42 ?_
    refine go_ireturn (y := mX11_withdrawing) (pc := 43) dX11_withdrawing_43 rfl ?_
    exact hq9
  refine go_aload_n (y := mX11_withdrawing) (pc := 0) dX11_withdrawing_0 rfl rfl ?_
  refine go_aload_n (y := mX11_withdrawing) (pc := 1) dX11_withdrawing_1 rfl rfl ?_
  refine go_iload_n (y := mX11_withdrawing) (pc := 2) dX11_withdrawing_2 rfl rfl ?_
  refine go_callV1 (y := mX11_withdrawing) (pc := 3) (y' := mX11_isMotion) (kc2 := 0) (ks2 := 0) dX11_withdrawing_3 ml_X11_345 ok_X11_isMotion (show shp 276 = _ from rfl) ⟨_, _, rfl⟩ (by decide) rfl (by decide) (Nat.le_of_ble_eq_true rfl) rfl (m_isMotion (by omega) hr hC (fun v3 e3 b3 => ?_))
  refine go_iconst (y := mX11_withdrawing) (pc := 6) dX11_withdrawing_6 ?_
  refine go_callV2 (y := mX11_withdrawing) (pc := 7) (y' := mX11_right) (kc2 := 0) (ks2 := 0) dX11_withdrawing_7 ml_X11_167 ok_X11_right (show shp 276 = _ from rfl) ⟨_, _, rfl⟩ (by decide) ⟨rfl, rfl⟩ (by decide) (Nat.le_of_ble_eq_true rfl) rfl (m_right h7 (by omega) (by decide) (fun v7 e7 g7 => ?_) (fun g7 => ?_))
  · skip
    have g : 0 ≤ q ∧ q < s 5 0 := bI_1 e3 (by omega)
    rw [if_pos g] at K
    rw [if_pos g] at K2
    obtain ⟨k, hk⟩ := Int.eq_ofNat_of_zero_le g.1
    subst hk
    refine go_if_eq (y := mX11_withdrawing) (pc := 10) (tgt := 42) dX11_withdrawing_10 (by decide) (by omega) (fun h10 => ?_) (fun h10 => ?_)
    · skip
      exact absurd h10 (by omega)
    · skip
      have J34 : ¬ (opn s k ∧ ¬ spa s k) → go 289 2 0 0 mX11_withdrawing Q X 34 [.ref 276, .int (iI (k : Nat))] [.ref 276] (md σ ν μ) := by
        intro g2
        rw [if_neg g2] at K2
        refine go_iconst (y := mX11_withdrawing) (pc := 34) dX11_withdrawing_34 ?_
        refine go_iconst (y := mX11_withdrawing) (pc := 35) dX11_withdrawing_35 ?_
        refine go_callV2 (y := mX11_withdrawing) (pc := 36) (y' := mX11_right) (kc2 := 0) (ks2 := 0) dX11_withdrawing_36 ml_X11_167 ok_X11_right (show shp 276 = _ from rfl) ⟨_, _, rfl⟩ (by decide) ⟨rfl, rfl⟩ (by decide) (Nat.le_of_ble_eq_true rfl) rfl (m_right h7 (by omega) (by decide) (fun v36 e36 g36 => ?_) (fun g36 => ?_))
        · skip
          exact absurd g36 (by decide)
        · skip
          refine go_if_ne (y := mX11_withdrawing) (pc := 39) (tgt := 44) dX11_withdrawing_39 (by decide) (by omega) (fun h39 => ?_) (fun h39 => ?_)
          · skip
            exact absurd rfl h39
          · skip
            exact J42 _ _ (K2 (by decide))
      refine go_aload_n (y := mX11_withdrawing) (pc := 13) dX11_withdrawing_13 rfl rfl ?_
      refine go_aload_n (y := mX11_withdrawing) (pc := 14) dX11_withdrawing_14 rfl rfl ?_
      refine go_iload_n (y := mX11_withdrawing) (pc := 15) dX11_withdrawing_15 rfl rfl ?_
      refine go_callV1 (y := mX11_withdrawing) (pc := 16) (y' := mX11_isOpen) (kc2 := 0) (ks2 := 0) dX11_withdrawing_16 ml_X11_141 ok_X11_isOpen (show shp 276 = _ from rfl) ⟨_, _, rfl⟩ (by decide) rfl (by decide) (Nat.le_of_ble_eq_true rfl) rfl (m_isOpen (q := k) (by omega) (by omega) hr (fun v16 e16 b16 => ?_))
      refine go_if_eq (y := mX11_withdrawing) (pc := 19) (tgt := 34) dX11_withdrawing_19 (by decide) (by omega) (fun h19 => ?_) (fun h19 => ?_)
      · skip
        exact J34 (fun w => bI_0 e16 h19 w.1.2.2)
      · skip
        refine go_aload_n (y := mX11_withdrawing) (pc := 22) dX11_withdrawing_22 rfl rfl ?_
        refine go_iload_n (y := mX11_withdrawing) (pc := 23) dX11_withdrawing_23 rfl rfl ?_
        refine go_callV1 (y := mX11_withdrawing) (pc := 24) (y' := mX11_isSpokenAbout) (kc2 := 0) (ks2 := 0) dX11_withdrawing_24 ml_X11_158 ok_X11_isSpokenAbout (show shp 276 = _ from rfl) ⟨_, _, rfl⟩ (by decide) rfl (by decide) (Nat.le_of_ble_eq_true rfl) rfl (m_isSpokenAbout (by omega) hr hS hC (fun v24 e24 b24 => ?_))
        refine go_if_ne (y := mX11_withdrawing) (pc := 27) (tgt := 34) dX11_withdrawing_27 (by decide) (by omega) (fun h27 => ?_) (fun h27 => ?_)
        · skip
          exact J34 (fun w => w.2 (bI_1 e24 h27))
        · skip
          have g2 : opn s k ∧ ¬ spa s k := ⟨⟨g.1, g.2, bI_1 e16 h19⟩, bI_0 e24 h27⟩
          rw [if_pos g2] at K
          have x1 := rel_stat (q := k) (v := 3) (by omega) hr n12 c4 q16 r12
          have o11 : wr s 7 k 3 11 0 = s 11 0 := wr_na (by decide)
          have x3 := rel_cab (q := (k : Int)) x1 hS (wf_w hC (by omega))
          rw [o11] at x3
          have n11 : wv ν (90 + 5 * k + 3) 3 11 = s 11 0 := (rs11 x1).trans o11
          have hk := K rfl _ x3.1
          refine go_iconst (y := mX11_withdrawing) (pc := 30) dX11_withdrawing_30 ?_
          refine go_goto (y := mX11_withdrawing) (pc := 31) (tgt := 35) dX11_withdrawing_31 (by decide) ?_
          refine go_iconst (y := mX11_withdrawing) (pc := 35) dX11_withdrawing_35 ?_
          refine go_callV2 (y := mX11_withdrawing) (pc := 36) (y' := mX11_right) (kc2 := 0) (ks2 := 0) dX11_withdrawing_36 ml_X11_167 ok_X11_right (show shp 276 = _ from rfl) ⟨_, _, rfl⟩ (by decide) ⟨rfl, rfl⟩ (by decide) (Nat.le_of_ble_eq_true rfl) rfl (m_right h7 (by omega) (by decide) (fun v36 e36 g36 => ?_) (fun g36 => ?_))
          · skip
            refine go_if_ne (y := mX11_withdrawing) (pc := 39) (tgt := 44) dX11_withdrawing_39 (by decide) (by omega) (fun h39 => ?_) (fun h39 => ?_)
            · skip
              refine go_aload_n (y := mX11_withdrawing) (pc := 44) dX11_withdrawing_44 rfl rfl ?_
              refine go_callV0 (y := mX11_withdrawing) (pc := 45) (y' := mX11_changes) (kc2 := 0) (ks2 := 0) dX11_withdrawing_45 ml_X11_387 ok_X11_changes (show shp 276 = _ from rfl) ⟨_, _, rfl⟩ (by decide) trivial (by decide) (Nat.le_of_ble_eq_true rfl) rfl (m_changes (σ := σ) (ν := ν) h6 ?_)
              refine go_aload_n (y := mX11_withdrawing) (pc := 48) dX11_withdrawing_48 rfl rfl ?_
              refine go_iload_n (y := mX11_withdrawing) (pc := 49) dX11_withdrawing_49 rfl rfl ?_
              refine go_iconst (y := mX11_withdrawing) (pc := 50) dX11_withdrawing_50 ?_
              refine go_iconst (y := mX11_withdrawing) (pc := 51) dX11_withdrawing_51 ?_
              refine go_callV3 (y := mX11_withdrawing) (pc := 52) (y' := mX11_putM) (kc2 := 0) (ks2 := 0) dX11_withdrawing_52 ml_X11_132 ok_X11_putM (show shp 276 = _ from rfl) ⟨_, _, rfl⟩ (by decide) ⟨rfl, rfl, rfl⟩ (by decide) (Nat.le_of_ble_eq_true rfl) rfl (m_putM (q := _) (w := 3) (by omega) (by decide) (by omega) ?_)
              refine go_aload_n (y := mX11_withdrawing) (pc := 55) dX11_withdrawing_55 rfl rfl ?_
              refine go_iload_n (y := mX11_withdrawing) (pc := 56) dX11_withdrawing_56 rfl rfl ?_
              refine go_callV1 (y := mX11_withdrawing) (pc := 57) (y' := mX11_dropsAll) (kc2 := 0) (ks2 := 0) dX11_withdrawing_57 ml_X11_397 ok_X11_dropsAll (show shp 276 = _ from rfl) ⟨_, _, rfl⟩ (by decide) rfl (by decide) (Nat.le_of_ble_eq_true rfl) rfl (m_dropsAll (q := (k : Int)) (by omega) (by rw [n11]; exact r0) (by rw [n11]; exact r12) ?_)
              rw [n11]
              refine go_ireturn (y := mX11_withdrawing) (pc := 60) dX11_withdrawing_60 rfl ?_
              rw [x3.2.1]
              exact hk
            · skip
              exact absurd h39 (by omega)
          · skip
            exact absurd g36 (by decide)
  · skip
    rw [if_neg (bI_0 e3 g7)] at K2
    refine go_if_eq (y := mX11_withdrawing) (pc := 10) (tgt := 42) dX11_withdrawing_10 (by decide) (by omega) (fun h10 => ?_) (fun h10 => ?_)
    · skip
      exact J42 _ _ (K2 (by decide))
    · skip
      exact absurd rfl h10
set_option maxRecDepth 8000 in
set_option maxHeartbeats 4000000 in
theorem m_sharpening {m : Int} (hm : rng m) (h7 : σ 0 7 = 0) (h6 : 0 ≤ σ 0 6 ∧ σ 0 6 ≤ 8) (hr : rel S s ν) (hS : wfS S) (hC : wfC S s) {Q : Option Value → Mem → Prop} {X : String → Mem → Prop} (K : rfSh S s m = 0 → ∀ ν', rel S (shp5 s m.toNat) ν' → Q (some (.int (iI (s 2 m.toNat - 2)))) (md (chg σ ν) ν' μ)) (K2 : rfSh S s m ≠ 0 → Q (some (.int (iI 0))) (md (wr σ 0 7 (t2 (rfSh S s m))) ν μ)) : mt 289 2 0 0 mX11_sharpening [.ref 276, .int (iI m)] Q X (md σ ν μ) := by
  show go 289 2 0 0 mX11_sharpening Q X 0 [.ref 276, .int (iI m)] [] _
  obtain ⟨n1, n12, c1, c4⟩ := wf_n hS
  obtain ⟨q0, q16, r0, r12⟩ := wf_r hS hC
  unfold rfSh at K K2
  have J46 : ∀ ν1 : Nat → Int, ∀ τ : Mem, Q (some (.int (iI 0))) (md τ ν1 μ) → go 289 2 0 0 mX11_sharpening Q X 46 [.ref 276, .int (iI m)] [] (md τ ν1 μ) := by
    intro ν1 τ hq9
    refine go_iconst (y := mX11_sharpening) (pc := 46) dX11_sharpening_46 ?_
    refine go_ireturn (y := mX11_sharpening) (pc := 47) dX11_sharpening_47 rfl ?_
    exact hq9
  refine go_aload_n (y := mX11_sharpening) (pc := 0) dX11_sharpening_0 rfl rfl ?_
  refine go_aload_n (y := mX11_sharpening) (pc := 1) dX11_sharpening_1 rfl rfl ?_
  refine go_iload_n (y := mX11_sharpening) (pc := 2) dX11_sharpening_2 rfl rfl ?_
  refine go_callV1 (y := mX11_sharpening) (pc := 3) (y' := mX11_isMember) (kc2 := 0) (ks2 := 0) dX11_sharpening_3 ml_X11_339 ok_X11_isMember (show shp 276 = _ from rfl) ⟨_, _, rfl⟩ (by decide) rfl (by decide) (Nat.le_of_ble_eq_true rfl) rfl (m_isMember (by omega) hr hS (fun v3 e3 b3 => ?_))
  refine go_iconst (y := mX11_sharpening) (pc := 6) dX11_sharpening_6 ?_
  refine go_callV2 (y := mX11_sharpening) (pc := 7) (y' := mX11_right) (kc2 := 0) (ks2 := 0) dX11_sharpening_7 ml_X11_167 ok_X11_right (show shp 276 = _ from rfl) ⟨_, _, rfl⟩ (by decide) ⟨rfl, rfl⟩ (by decide) (Nat.le_of_ble_eq_true rfl) rfl (m_right h7 (by omega) (by decide) (fun v7 e7 g7 => ?_) (fun g7 => ?_))
  · skip
    have g : 0 ≤ m ∧ m < S 0 7 := bI_1 e3 (by omega)
    rw [if_pos g] at K
    rw [if_pos g] at K2
    obtain ⟨k, hk⟩ := Int.eq_ofNat_of_zero_le g.1
    subst hk
    have ek : ((k : Int)).toNat = k := rfl
    rw [ek] at K K2
    have hb := hC.2.1 k g.2
    refine go_if_eq (y := mX11_sharpening) (pc := 10) (tgt := 46) dX11_sharpening_10 (by decide) (by omega) (fun h10 => ?_) (fun h10 => ?_)
    · skip
      exact absurd h10 (by omega)
    · skip
      have J38 : (s 3 k = 5 ∨ s 2 k < 2) → go 289 2 0 0 mX11_sharpening Q X 38 [.ref 276, .int (iI (k : Nat))] [.ref 276] (md σ ν μ) := by
        intro g2
        rw [if_pos g2] at K2
        refine go_iconst (y := mX11_sharpening) (pc := 38) dX11_sharpening_38 ?_
        refine go_iconst (y := mX11_sharpening) (pc := 39) dX11_sharpening_39 ?_
        refine go_callV2 (y := mX11_sharpening) (pc := 40) (y' := mX11_right) (kc2 := 0) (ks2 := 0) dX11_sharpening_40 ml_X11_167 ok_X11_right (show shp 276 = _ from rfl) ⟨_, _, rfl⟩ (by decide) ⟨rfl, rfl⟩ (by decide) (Nat.le_of_ble_eq_true rfl) rfl (m_right h7 (by omega) (by decide) (fun v40 e40 g40 => ?_) (fun g40 => ?_))
        · skip
          exact absurd g40 (by decide)
        · skip
          refine go_if_ne (y := mX11_sharpening) (pc := 43) (tgt := 48) dX11_sharpening_43 (by decide) (by omega) (fun h43 => ?_) (fun h43 => ?_)
          · skip
            exact absurd rfl h43
          · skip
            exact J46 _ _ (K2 (by decide))
      refine go_aload_n (y := mX11_sharpening) (pc := 13) dX11_sharpening_13 rfl rfl ?_
      refine go_aload_n (y := mX11_sharpening) (pc := 14) dX11_sharpening_14 rfl rfl ?_
      refine go_iload_n (y := mX11_sharpening) (pc := 15) dX11_sharpening_15 rfl rfl ?_
      refine go_iconst (y := mX11_sharpening) (pc := 16) dX11_sharpening_16 ?_
      refine go_callV2 (y := mX11_sharpening) (pc := 17) (y' := mX11_of) (kc2 := 0) (ks2 := 0) dX11_sharpening_17 ml_X11_100 ok_X11_of (show shp 276 = _ from rfl) ⟨_, _, rfl⟩ (by decide) ⟨rfl, rfl⟩ (by decide) (Nat.le_of_ble_eq_true rfl) rfl (m_of (m := k) (w := 4) (by omega) (by decide) (fun v17 e17 r17 => ?_))
      refine go_top (b := s 3 k) (e17.trans (rlR hr g.2)) (fun t17 => ?_)
      refine go_iconst (y := mX11_sharpening) (pc := 20) dX11_sharpening_20 ?_
      refine go_icmp_ge (y := mX11_sharpening) (pc := 21) (tgt := 38) dX11_sharpening_21 (by decide) (by omega) (by omega) (fun h21 => ?_) (fun h21 => ?_)
      · skip
        exact J38 (Or.inl (by omega))
      · skip
        refine go_aload_n (y := mX11_sharpening) (pc := 24) dX11_sharpening_24 rfl rfl ?_
        refine go_iload_n (y := mX11_sharpening) (pc := 25) dX11_sharpening_25 rfl rfl ?_
        refine go_iconst (y := mX11_sharpening) (pc := 26) dX11_sharpening_26 ?_
        refine go_callV2 (y := mX11_sharpening) (pc := 27) (y' := mX11_of) (kc2 := 0) (ks2 := 0) dX11_sharpening_27 ml_X11_100 ok_X11_of (show shp 276 = _ from rfl) ⟨_, _, rfl⟩ (by decide) ⟨rfl, rfl⟩ (by decide) (Nat.le_of_ble_eq_true rfl) rfl (m_of (m := k) (w := 3) (by omega) (by decide) (fun v27 e27 r27 => ?_))
        refine go_top (b := s 2 k) (e27.trans (rlC hr g.2)) (fun t27 => ?_)
        refine go_iconst (y := mX11_sharpening) (pc := 30) dX11_sharpening_30 ?_
        refine go_icmp_lt (y := mX11_sharpening) (pc := 31) (tgt := 38) dX11_sharpening_31 (by decide) (by omega) (by omega) (fun h31 => ?_) (fun h31 => ?_)
        · skip
          exact J38 (Or.inr (by omega))
        · skip
          rw [if_neg (by omega)] at K
          have x1 := rel_raz (m := k) (v := 5) g.2 hr n12 c4 q16 r12
          have x2 := rel_pur (m := k) (v := s 2 k - 2) g.2 x1 n12 c4 (by rw [wr_na (by decide)]; exact q16) (by rw [wr_na (by decide)]; exact r12)
          have x3 := rel_shr (v := wp (s 0 10 + 1)) x2 n12 c4 (by rw [wr_na (by decide), wr_na (by decide)]; exact q16) (by rw [wr_na (by decide), wr_na (by decide)]; exact r12)
          have x4 : rel S (shp5 s k) (wv (wv (wv ν (18 + 6 * k + 4) 5) (18 + 6 * k + 3) (s 2 k - 2)) 15 (wp (s 0 10 + 1))) := by
            have e : shp5 s k = wr (wr (wr s 3 k 5) 2 k (s 2 k - 2)) 0 10 (wp (s 0 10 + 1)) := by
              unfold shp5
              show wr (wr (wr s 2 k (s 2 k - 2)) 3 k 5) 0 10 (wp (wr (wr s 2 k (s 2 k - 2)) 3 k 5 0 10 + 1)) = _
              rw [wr_na (by decide : (0 : Nat) ≠ 3), wr_na (by decide : (0 : Nat) ≠ 2)]
              funext r j
              unfold wr
              by_cases g2 : r = 2
              · subst g2; simp
              · simp [g2]
            rw [e]; exact x3
          have hk := K rfl _ x4
          refine go_iconst (y := mX11_sharpening) (pc := 34) dX11_sharpening_34 ?_
          refine go_goto (y := mX11_sharpening) (pc := 35) (tgt := 39) dX11_sharpening_35 (by decide) ?_
          refine go_iconst (y := mX11_sharpening) (pc := 39) dX11_sharpening_39 ?_
          refine go_callV2 (y := mX11_sharpening) (pc := 40) (y' := mX11_right) (kc2 := 0) (ks2 := 0) dX11_sharpening_40 ml_X11_167 ok_X11_right (show shp 276 = _ from rfl) ⟨_, _, rfl⟩ (by decide) ⟨rfl, rfl⟩ (by decide) (Nat.le_of_ble_eq_true rfl) rfl (m_right h7 (by omega) (by decide) (fun v40 e40 g40 => ?_) (fun g40 => ?_))
          · skip
            refine go_if_ne (y := mX11_sharpening) (pc := 43) (tgt := 48) dX11_sharpening_43 (by decide) (by omega) (fun h43 => ?_) (fun h43 => ?_)
            · skip
              refine go_aload_n (y := mX11_sharpening) (pc := 48) dX11_sharpening_48 rfl rfl ?_
              refine go_callV0 (y := mX11_sharpening) (pc := 49) (y' := mX11_changes) (kc2 := 0) (ks2 := 0) dX11_sharpening_49 ml_X11_387 ok_X11_changes (show shp 276 = _ from rfl) ⟨_, _, rfl⟩ (by decide) trivial (by decide) (Nat.le_of_ble_eq_true rfl) rfl (m_changes (σ := σ) (ν := ν) h6 ?_)
              refine go_aload_n (y := mX11_sharpening) (pc := 52) dX11_sharpening_52 rfl rfl ?_
              refine go_iload_n (y := mX11_sharpening) (pc := 53) dX11_sharpening_53 rfl rfl ?_
              refine go_iconst (y := mX11_sharpening) (pc := 54) dX11_sharpening_54 ?_
              refine go_iconst (y := mX11_sharpening) (pc := 55) dX11_sharpening_55 ?_
              refine go_callV3 (y := mX11_sharpening) (pc := 56) (y' := mX11_puts) (kc2 := 0) (ks2 := 0) dX11_sharpening_56 ml_X11_138 ok_X11_puts (show shp 276 = _ from rfl) ⟨_, _, rfl⟩ (by decide) ⟨rfl, rfl, rfl⟩ (by decide) (Nat.le_of_ble_eq_true rfl) rfl (m_puts (m := k) (w := 4) (by omega) (by decide) (by omega) ?_)
              refine go_aload_n (y := mX11_sharpening) (pc := 59) dX11_sharpening_59 rfl rfl ?_
              refine go_iload_n (y := mX11_sharpening) (pc := 60) dX11_sharpening_60 rfl rfl ?_
              refine go_iconst (y := mX11_sharpening) (pc := 61) dX11_sharpening_61 ?_
              refine go_aload_n (y := mX11_sharpening) (pc := 62) dX11_sharpening_62 rfl rfl ?_
              refine go_iload_n (y := mX11_sharpening) (pc := 63) dX11_sharpening_63 rfl rfl ?_
              refine go_iconst (y := mX11_sharpening) (pc := 64) dX11_sharpening_64 ?_
              refine go_callV2 (y := mX11_sharpening) (pc := 65) (y' := mX11_of) (kc2 := 0) (ks2 := 0) dX11_sharpening_65 ml_X11_100 ok_X11_of (show shp 276 = _ from rfl) ⟨_, _, rfl⟩ (by decide) ⟨rfl, rfl⟩ (by decide) (Nat.le_of_ble_eq_true rfl) rfl (m_of (m := k) (w := 3) (by omega) (by decide) (fun v65 e65 r65 => ?_))
              refine go_top (b := s 2 k) (e65.trans ((wv_n (by omega)).trans (rlC hr g.2))) (fun t65 => ?_)
              refine go_iconst (y := mX11_sharpening) (pc := 68) dX11_sharpening_68 ?_
              refine go_isub (y := mX11_sharpening) (pc := 69) dX11_sharpening_69 ?_
              refine go_callV3 (y := mX11_sharpening) (pc := 70) (y' := mX11_puts) (kc2 := 0) (ks2 := 0) dX11_sharpening_70 ml_X11_138 ok_X11_puts (show shp 276 = _ from rfl) ⟨_, _, rfl⟩ (by decide) ⟨rfl, rfl, rfl⟩ (by decide) (Nat.le_of_ble_eq_true rfl) rfl (m_puts (m := k) (w := 3) (by omega) (by decide) (by omega) ?_)
              refine go_aload_n (y := mX11_sharpening) (pc := 73) dX11_sharpening_73 rfl rfl ?_
              refine go_mref (y := mX11_sharpening) (pc := 74) dX11_sharpening_74 fl_X11_7 rfl rfl (by decide) ?_
              refine go_bipush (y := mX11_sharpening) (pc := 77) dX11_sharpening_77 (by decide) ?_
              refine go_dup2 (y := mX11_sharpening) (pc := 79) dX11_sharpening_79 rfl rfl ?_
              refine go_nial (y := mX11_sharpening) (pc := 80) (k := 15) dX11_sharpening_80 (by decide) rfl (by omega) (fun r80 => ?_)
              refine go_top (b := s 0 10) (((wv_n (by omega)).trans (wv_n (by omega))).trans (rs15 hr)) (fun t80 => ?_)
              refine go_iconst (y := mX11_sharpening) (pc := 81) dX11_sharpening_81 ?_
              refine go_iadd (y := mX11_sharpening) (pc := 82) dX11_sharpening_82 ?_
              refine go_niasW (y := mX11_sharpening) (pc := 83) (k := 15) dX11_sharpening_83 (by decide) rfl (by omega)  ?_
              refine go_aload_n (y := mX11_sharpening) (pc := 84) dX11_sharpening_84 rfl rfl ?_
              refine go_iload_n (y := mX11_sharpening) (pc := 85) dX11_sharpening_85 rfl rfl ?_
              refine go_iconst (y := mX11_sharpening) (pc := 86) dX11_sharpening_86 ?_
              refine go_callV2 (y := mX11_sharpening) (pc := 87) (y' := mX11_of) (kc2 := 0) (ks2 := 0) dX11_sharpening_87 ml_X11_100 ok_X11_of (show shp 276 = _ from rfl) ⟨_, _, rfl⟩ (by decide) ⟨rfl, rfl⟩ (by decide) (Nat.le_of_ble_eq_true rfl) rfl (m_of (m := k) (w := 3) (by omega) (by decide) (fun v87 e87 r87 => ?_))
              refine go_top (b := s 2 k - 2) (e87.trans ((wv_n (by omega)).trans wv_s)) (fun t87 => ?_)
              refine go_ireturn (y := mX11_sharpening) (pc := 90) dX11_sharpening_90 rfl ?_
              exact hk
            · skip
              exact absurd h43 (by omega)
          · skip
            exact absurd g40 (by decide)
  · skip
    rw [if_neg (bI_0 e3 g7)] at K2
    refine go_if_eq (y := mX11_sharpening) (pc := 10) (tgt := 46) dX11_sharpening_10 (by decide) (by omega) (fun h10 => ?_) (fun h10 => ?_)
    · skip
      exact J46 _ _ (K2 (by decide))
    · skip
      exact absurd rfl h10
set_option maxRecDepth 8000 in
set_option maxHeartbeats 4000000 in
theorem m_ranks {r : Int} (hr9 : rng r) (h7 : σ 0 7 = 0) (h6 : 0 ≤ σ 0 6 ∧ σ 0 6 ≤ 8) (hr : rel S s ν) (hS : wfS S) (hC : wfC S s) {Q : Option Value → Mem → Prop} {X : String → Mem → Prop} (K : rfRk r = 0 → ∀ ν', rel S (wr s 0 6 r) ν' → Q (some (.int (iI (s 0 6)))) (md (chg σ ν) ν' μ)) (K2 : rfRk r ≠ 0 → Q (some (.int (iI 0))) (md (wr σ 0 7 (t2 (rfRk r))) ν μ)) : mt 289 2 0 0 mX11_ranks [.ref 276, .int (iI r)] Q X (md σ ν μ) := by
  show go 289 2 0 0 mX11_ranks Q X 0 [.ref 276, .int (iI r), .null] [] _
  obtain ⟨n1, n12, c1, c4⟩ := wf_n hS
  obtain ⟨q0, q16, r0, r12⟩ := wf_r hS hC
  unfold rfRk at K K2
  refine go_aload_n (y := mX11_ranks) (pc := 0) dX11_ranks_0 rfl rfl ?_
  refine go_iload_n (y := mX11_ranks) (pc := 1) dX11_ranks_1 rfl rfl ?_
  refine go_callS1 (y := mX11_ranks) (pc := 2) (y' := mX11_isRanking) (kc2 := 0) (ks2 := 0) dX11_ranks_2 ml_X11_375 ok_X11_isRanking rfl (by decide) (Nat.le_of_ble_eq_true rfl) rfl (m_isRanking (by omega) (fun v2 e2 b2 => ?_))
  refine go_iconst (y := mX11_ranks) (pc := 5) dX11_ranks_5 ?_
  refine go_callV2 (y := mX11_ranks) (pc := 6) (y' := mX11_right) (kc2 := 0) (ks2 := 0) dX11_ranks_6 ml_X11_167 ok_X11_right (show shp 276 = _ from rfl) ⟨_, _, rfl⟩ (by decide) ⟨rfl, rfl⟩ (by decide) (Nat.le_of_ble_eq_true rfl) rfl (m_right h7 (by omega) (by decide) (fun v6 e6 g6 => ?_) (fun g6 => ?_))
  · skip
    have g := bI_1 e2 (by omega)
    rw [if_neg (by omega)] at K
    have hk := K rfl _ (rel_rkg (v := r) hr n12 c4 q16 r12)
    refine go_if_ne (y := mX11_ranks) (pc := 9) (tgt := 14) dX11_ranks_9 (by decide) (by omega) (fun h9 => ?_) (fun h9 => ?_)
    · skip
      refine go_aload_n (y := mX11_ranks) (pc := 14) dX11_ranks_14 rfl rfl ?_
      refine go_callV0 (y := mX11_ranks) (pc := 15) (y' := mX11_changes) (kc2 := 0) (ks2 := 0) dX11_ranks_15 ml_X11_387 ok_X11_changes (show shp 276 = _ from rfl) ⟨_, _, rfl⟩ (by decide) trivial (by decide) (Nat.le_of_ble_eq_true rfl) rfl (m_changes (σ := σ) (ν := ν) h6 ?_)
      refine go_aload_n (y := mX11_ranks) (pc := 18) dX11_ranks_18 rfl rfl ?_
      refine go_mref (y := mX11_ranks) (pc := 19) dX11_ranks_19 fl_X11_7 rfl rfl (by decide) ?_
      refine go_bipush (y := mX11_ranks) (pc := 22) dX11_ranks_22 (by decide) ?_
      refine go_nial (y := mX11_ranks) (pc := 24) (k := 10) dX11_ranks_24 (by decide) rfl (by omega) (fun r24 => ?_)
      refine go_top (b := s 0 6) (rs10 hr) (fun t24 => ?_)
      refine go_istore_n (y := mX11_ranks) (pc := 25) dX11_ranks_25 rfl (by decide) ?_
      refine go_aload_n (y := mX11_ranks) (pc := 26) dX11_ranks_26 rfl rfl ?_
      refine go_mref (y := mX11_ranks) (pc := 27) dX11_ranks_27 fl_X11_7 rfl rfl (by decide) ?_
      refine go_bipush (y := mX11_ranks) (pc := 30) dX11_ranks_30 (by decide) ?_
      refine go_iload_n (y := mX11_ranks) (pc := 32) dX11_ranks_32 rfl rfl ?_
      refine go_nias (y := mX11_ranks) (pc := 33) (k := 10) dX11_ranks_33 (by decide) rfl (by omega) (by omega) ?_
      refine go_iload_n (y := mX11_ranks) (pc := 34) dX11_ranks_34 rfl rfl ?_
      refine go_ireturn (y := mX11_ranks) (pc := 35) dX11_ranks_35 rfl ?_
      exact hk
    · skip
      exact absurd h9 (by omega)
  · skip
    rw [if_pos (by have := bI_0 e2 g6; omega)] at K2
    refine go_if_ne (y := mX11_ranks) (pc := 9) (tgt := 14) dX11_ranks_9 (by decide) (by omega) (fun h9 => ?_) (fun h9 => ?_)
    · skip
      exact absurd rfl h9
    · skip
      refine go_iconst (y := mX11_ranks) (pc := 12) dX11_ranks_12 ?_
      refine go_ireturn (y := mX11_ranks) (pc := 13) dX11_ranks_13 rfl ?_
      exact K2 (by decide)
end MCh2
