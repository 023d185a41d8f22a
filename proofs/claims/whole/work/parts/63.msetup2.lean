/-! THE MODEL READS A SETUP: the head, all of it, load -/
theorem hq_n {f : Int → Int} {L : Nat} {s : Sta} (h : (hq8 f L s).2.1 = 0) : (hq7 f L s).2.1 = 0 ∧ (hq6 f L s).2.1 = 0 ∧ (hq5 f L s).2.1 = 0 ∧ (hq4 f L s).2.1 = 0 ∧ (hq3 f L s).2.1 = 0 ∧ (hq2 f L s).2.1 = 0 ∧ (hq1 f L s).2.1 = 0 ∧ (hq0 f L s).2.1 = 0 := by
  have h7 := (gm_0 (show (1 : Int) ≠ 0 by decide) h).1
  have h6 := (num3_0 h7).1
  have h5 := (num3_0 h6).1
  have h4 := (num3_0 h5).1
  have h3 := (num3_0 h4).1
  have h2 := (num3_0 h3).1
  have h1 := (num3_0 h2).1
  have h0 := (num3_0 h1).1
  exact ⟨h7, h6, h5, h4, h3, h2, h1, h0⟩
theorem tkn3_v {f : Int → Int} {L : Nat} {s : Sta} {a m v : Int} (h : (num3 f L s a m).2.1 = 0) (hv : (num3 f L s a m).2.1 = 0 → v = nmv f L s.1) : v = tkn3 f L s a m ∧ a ≤ v ∧ v ≤ m := by
  have h1 := (num3_0 h).2.2
  rw [tkn3_0 h, hv h]
  exact ⟨rfl, h1⟩
theorem rls_hdm {f : Int → Int} {L : Nat} {s : Sta} {τ : Mem} {ν : Nat → Int} (hb : ∀ j, j < 418 → ν j = bg0 j) {v0 v1 v2 v3 v4 v5 v6 : Int}
    (e0 : v0 = tkn3 f L (hq0 f L s) 1 4 ∧ 1 ≤ v0 ∧ v0 ≤ 4) (e1 : v1 = tkn3 f L (hq1 f L s) 0 5 ∧ 0 ≤ v1 ∧ v1 ≤ 5) (e2 : v2 = tkn3 f L (hq2 f L s) 1 20 ∧ 1 ≤ v2 ∧ v2 ≤ 20) (e3 : v3 = tkn3 f L (hq3 f L s) 0 20 ∧ 0 ≤ v3 ∧ v3 ≤ 20)
    (e4 : v4 = tkn3 f L (hq4 f L s) 2 30 ∧ 2 ≤ v4 ∧ v4 ≤ 30) (e5 : v5 = tkn3 f L (hq5 f L s) 0 9 ∧ 0 ≤ v5 ∧ v5 ≤ 9) (e6 : v6 = tkn3 f L (hq6 f L s) 0 12 ∧ 0 ≤ v6 ∧ v6 ≤ 12) :
    rls (hdm f L s τ).2 (wv (wv (wv (wv (wv (wv (wv ν 0 (wp v0)) 1 (wp v1)) 2 (wp v2)) 3 (wp v3)) 4 (wp v4)) 5 (wp v5)) 6 (wp v6)) ∧ wfD (hdm f L s τ).2 := by
  have h7 : (hdm f L s τ).2 15 7 = 0 := rfl
  have h0 : (hdm f L s τ).2 15 0 = v0 := e0.1.symm
  have h1 : (hdm f L s τ).2 15 1 = v1 := e1.1.symm
  have h2 : (hdm f L s τ).2 15 2 = v2 := e2.1.symm
  have h3 : (hdm f L s τ).2 15 3 = v3 := e3.1.symm
  have h4 : (hdm f L s τ).2 15 4 = v4 := e4.1.symm
  have h5 : (hdm f L s τ).2 15 5 = v5 := e5.1.symm
  have h6 : (hdm f L s τ).2 15 6 = v6 := e6.1.symm
  rw [wp_of (by omega), wp_of (by omega), wp_of (by omega), wp_of (by omega), wp_of (by omega), wp_of (by omega), wp_of (by omega)]
  refine ⟨⟨⟨?_, ?_, ?_, ?_, ?_, ?_, ?_, ?_, ?_⟩, fun m hm => ?_, fun j hj hj2 => ?_⟩, ⟨by rw [h7]; decide, by rw [h0, h1, h2, h3, h4, h5, h6]; omega, fun m hm => ?_⟩⟩
  · rw [h0, wv_n (by decide), wv_n (by decide), wv_n (by decide), wv_n (by decide), wv_n (by decide), wv_n (by decide), wv_s]
  · rw [h1, wv_n (by decide), wv_n (by decide), wv_n (by decide), wv_n (by decide), wv_n (by decide), wv_s]
  · rw [h2, wv_n (by decide), wv_n (by decide), wv_n (by decide), wv_n (by decide), wv_s]
  · rw [h3, wv_n (by decide), wv_n (by decide), wv_n (by decide), wv_s]
  · rw [h4, wv_n (by decide), wv_n (by decide), wv_s]
  · rw [h5, wv_n (by decide), wv_s]
  · rw [h6, wv_s]
  · rw [h7, wv_n (by decide), wv_n (by decide), wv_n (by decide), wv_n (by decide), wv_n (by decide), wv_n (by decide), wv_n (by decide), hb 8 (by decide)]
    rfl
  · rw [h7, wv_n (by decide), wv_n (by decide), wv_n (by decide), wv_n (by decide), wv_n (by decide), wv_n (by decide), wv_n (by decide), hb 16 (by decide)]
    rfl
  · rw [h7] at hm
    omega
  · rw [h7] at hj2
    rw [wv_n (by omega), wv_n (by omega), wv_n (by omega), wv_n (by omega), wv_n (by omega), wv_n (by omega), wv_n (by omega)]
    exact hb j hj
  · rw [h7] at hm
    omega
/-- all but the reader's numbers and the row 'reading' is the same -/
def sm3 (σ' σ : Mem) : Prop := ∀ r j : Nat, (r ≠ 0 ∨ j < 12 ∨ 17 < j) → r ≠ 3 → σ' r j = σ r j
section MSetup2
variable {σ μ τ : Mem} {ν : Nat → Int} {f : Int → Int} {L : Nat} {s : Sta}
set_option maxRecDepth 8000 in
set_option maxHeartbeats 4000000 in
theorem m_readsSetup (hr : rom f L s σ) (hb : ∀ j, j < 418 → ν j = bg0 j) {Q : Option Value → Mem → Prop} {X : String → Mem → Prop} (K : ∀ σ' ν', rom f L (rdS f L s τ).1 σ' → smo σ' σ → ((rdS f L s τ).1.2.1 = 0 → rls (rdS f L s τ).2 ν' ∧ wfD (rdS f L s τ).2 ∧ 1 ≤ (rdS f L s τ).2 15 7) → Q none (md σ' ν' μ)) : mt 289 6 0 0 mX11_readsSetup [.ref 276] Q X (md σ ν μ) := by
  show go 289 6 0 0 mX11_readsSetup Q X 0 [.ref 276] [] _
  have loop : ∀ (n : Nat) (x : Sta × Mem) (σ1 : Mem) (ν1 : Nat → Int), rom f L x.1 σ1 → smo σ1 σ → (0 ≤ ν1 8 ∧ ν1 8 ≤ 12) → (x.1.2.1 = 0 → rls x.2 ν1 ∧ wfD x.2 ∧ 1 ≤ x.2 15 7 ∧ 13 ≤ x.2 15 7 + n) → rdl f L n x = rdS f L s τ → go 289 6 0 0 mX11_readsSetup Q X 116 [.ref 276] [] (md σ1 ν1 μ) := by
    intro n
    induction n with
    | zero =>
      intro x σ1 ν1 h1 hw h8 hR he
      rw [rdl] at he
      rw [← he] at K
      refine go_aload_n (y := mX11_readsSetup) (pc := 116) dX11_readsSetup_116 rfl rfl ?_
      refine go_mget (y := mX11_readsSetup) (pc := 117) dX11_readsSetup_117 fl_X11_189 rfl rfl (by decide) (fun r117 => ?_)
      refine go_top (b := x.1.2.1) (h1.2.2.2.2.1) (fun t117 => ?_)
      refine go_if_ne (y := mX11_readsSetup) (pc := 120) (tgt := 137) dX11_readsSetup_120 (by decide) (by omega) (fun h120 => ?_) (fun h120 => ?_)
      · skip
        refine go_return (y := mX11_readsSetup) (pc := 137) dX11_readsSetup_137 rfl ?_
        exact K σ1 ν1 h1 hw (fun w => absurd w h120)
      · skip
        have h9 := hR h120
        exfalso
        have h8 := h9.2.1.1.2
        omega
    | succ n ih =>
      intro x σ1 ν1 h1 hw h8 hR he
      rw [rdl] at he
      have tb := tkT_b (f := f) (b := x.1.1)
      have J137 : ¬ (x.1.2.1 = 0 ∧ tkK f x.1.1 ≠ 0) → go 289 6 0 0 mX11_readsSetup Q X 137 [.ref 276] [] (md σ1 ν1 μ) := by
        intro g
        rw [if_neg g] at he
        rw [← he] at K
        refine go_return (y := mX11_readsSetup) (pc := 137) dX11_readsSetup_137 rfl ?_
        exact K σ1 ν1 h1 hw (fun w => ⟨(hR w).1, (hR w).2.1, (hR w).2.2.1⟩)
      refine go_aload_n (y := mX11_readsSetup) (pc := 116) dX11_readsSetup_116 rfl rfl ?_
      refine go_mget (y := mX11_readsSetup) (pc := 117) dX11_readsSetup_117 fl_X11_189 rfl rfl (by decide) (fun r117 => ?_)
      refine go_top (b := x.1.2.1) (h1.2.2.2.2.1) (fun t117 => ?_)
      refine go_if_ne (y := mX11_readsSetup) (pc := 120) (tgt := 137) dX11_readsSetup_120 (by decide) (by omega) (fun h120 => ?_) (fun h120 => ?_)
      · skip
        exact J137 (fun w => h120 w.1)
      · skip
        refine go_aload_n (y := mX11_readsSetup) (pc := 123) dX11_readsSetup_123 rfl rfl ?_
        refine go_mget (y := mX11_readsSetup) (pc := 124) dX11_readsSetup_124 fl_X11_183 rfl rfl (by decide) (fun r124 => ?_)
        refine go_top (b := tkT f x.1.1) (h1.2.2.1) (fun t124 => ?_)
        refine go_if_eq (y := mX11_readsSetup) (pc := 127) (tgt := 137) dX11_readsSetup_127 (by decide) (by omega) (fun h127 => ?_) (fun h127 => ?_)
        · skip
          exact J137 (fun w => w.2 (tkT_0.mp h127))
        · skip
          rw [if_pos ⟨h120, fun w => h127 (tkT_0.mpr w)⟩] at he
          refine go_aload_n (y := mX11_readsSetup) (pc := 130) dX11_readsSetup_130 rfl rfl ?_
          refine go_callV0 (y := mX11_readsSetup) (pc := 131) (y' := mX11_readsMember) (kc2 := 0) (ks2 := 0) dX11_readsSetup_131 ml_X11_230 ok_X11_readsMember (show shp 276 = _ from rfl) ⟨_, _, rfl⟩ (by decide) trivial (by decide) (Nat.le_of_ble_eq_true rfl) rfl (m_readsMember (s := x.1) (τ := x.2) h1 h8 (fun g => ⟨(hR g).1, (hR g).2.1⟩) (fun σ131 ν131 e131 w131 x131 y131 => ?_))
          refine go_goto (y := mX11_readsSetup) (pc := 134) (tgt := 116) dX11_readsSetup_134 (by decide) ?_
          refine ih (mst f L x) σ131 ν131 e131 (smo_t w131 hw) x131 (fun g => ?_) he
          obtain ⟨g1, g2, g3⟩ := y131 g
          have g3' : (mst f L x).2 15 7 = x.2 15 7 + 1 := g3
          have h9 := hR h120
          exact ⟨g1, g2, by omega, by omega⟩
  refine go_aload_n (y := mX11_readsSetup) (pc := 0) dX11_readsSetup_0 rfl rfl ?_
  refine go_aload_n (y := mX11_readsSetup) (pc := 1) dX11_readsSetup_1 rfl rfl ?_
  refine go_ldc (y := mX11_readsSetup) (pc := 2) (i := 32) dX11_readsSetup_2 rfl ?_
  refine go_callV1 (y := mX11_readsSetup) (pc := 4) (y' := mX11_isWord) (kc2 := 0) (ks2 := 0) dX11_readsSetup_4 ml_X11_198 ok_X11_isWord (show shp 276 = _ from rfl) ⟨_, _, rfl⟩ (by decide) rfl (by decide) (Nat.le_of_ble_eq_true rfl) rfl (m_isWord (k := 32) rfl hr (fun v4 e4 b4 => ?_))
  refine go_iconst (y := mX11_readsSetup) (pc := 7) dX11_readsSetup_7 ?_
  refine go_callV2 (y := mX11_readsSetup) (pc := 8) (y' := mX11_must) (kc2 := 0) (ks2 := 0) dX11_readsSetup_8 ml_X11_205 ok_X11_must (show shp 276 = _ from rfl) ⟨_, _, rfl⟩ (by decide) ⟨rfl, rfl⟩ (by decide) (Nat.le_of_ble_eq_true rfl) rfl (m_must e4 (by decide) hr (fun σ8 v8 e8 w8 b8 c8 => ?_))
  rw [mus_a] at e8
  refine go_pop (y := mX11_readsSetup) (pc := 11) dX11_readsSetup_11 rfl ?_
  refine go_aload_n (y := mX11_readsSetup) (pc := 12) dX11_readsSetup_12 rfl rfl ?_
  refine go_callV0 (y := mX11_readsSetup) (pc := 13) (y' := mX11_goesOn) (kc2 := 0) (ks2 := 0) dX11_readsSetup_13 ml_X11_208 ok_X11_goesOn (show shp 276 = _ from rfl) ⟨_, _, rfl⟩ (by decide) trivial (by decide) (Nat.le_of_ble_eq_true rfl) rfl (m_goesOn e8 (fun σ13 e13 w13 => ?_))
  have e13 : rom f L (hq0 f L s) σ13 := e13
  refine go_aload_n (y := mX11_readsSetup) (pc := 16) dX11_readsSetup_16 rfl rfl ?_
  refine go_mref (y := mX11_readsSetup) (pc := 17) dX11_readsSetup_17 fl_X11_7 rfl rfl (by decide) ?_
  refine go_iconst (y := mX11_readsSetup) (pc := 20) dX11_readsSetup_20 ?_
  refine go_aload_n (y := mX11_readsSetup) (pc := 21) dX11_readsSetup_21 rfl rfl ?_
  refine go_iconst (y := mX11_readsSetup) (pc := 22) dX11_readsSetup_22 ?_
  refine go_iconst (y := mX11_readsSetup) (pc := 23) dX11_readsSetup_23 ?_
  refine go_callV2 (y := mX11_readsSetup) (pc := 24) (y' := mX11_number) (kc2 := 0) (ks2 := 0) dX11_readsSetup_24 ml_X11_222 ok_X11_number (show shp 276 = _ from rfl) ⟨_, _, rfl⟩ (by decide) ⟨rfl, rfl⟩ (by decide) (Nat.le_of_ble_eq_true rfl) rfl (m_number (by omega) (by omega) e13 (fun σ24 v24 e24 w24 x24 => ?_))
  have e24 : rom f L (hq1 f L s) σ24 := e24
  refine go_niasW (y := mX11_readsSetup) (pc := 27) (k := 0) dX11_readsSetup_27 (by decide) rfl (by omega)  ?_
  refine go_aload_n (y := mX11_readsSetup) (pc := 28) dX11_readsSetup_28 rfl rfl ?_
  refine go_mref (y := mX11_readsSetup) (pc := 29) dX11_readsSetup_29 fl_X11_7 rfl rfl (by decide) ?_
  refine go_iconst (y := mX11_readsSetup) (pc := 32) dX11_readsSetup_32 ?_
  refine go_aload_n (y := mX11_readsSetup) (pc := 33) dX11_readsSetup_33 rfl rfl ?_
  refine go_iconst (y := mX11_readsSetup) (pc := 34) dX11_readsSetup_34 ?_
  refine go_iconst (y := mX11_readsSetup) (pc := 35) dX11_readsSetup_35 ?_
  refine go_callV2 (y := mX11_readsSetup) (pc := 36) (y' := mX11_number) (kc2 := 0) (ks2 := 0) dX11_readsSetup_36 ml_X11_222 ok_X11_number (show shp 276 = _ from rfl) ⟨_, _, rfl⟩ (by decide) ⟨rfl, rfl⟩ (by decide) (Nat.le_of_ble_eq_true rfl) rfl (m_number (by omega) (by omega) e24 (fun σ36 v36 e36 w36 x36 => ?_))
  have e36 : rom f L (hq2 f L s) σ36 := e36
  refine go_niasW (y := mX11_readsSetup) (pc := 39) (k := 1) dX11_readsSetup_39 (by decide) rfl (by omega)  ?_
  refine go_aload_n (y := mX11_readsSetup) (pc := 40) dX11_readsSetup_40 rfl rfl ?_
  refine go_mref (y := mX11_readsSetup) (pc := 41) dX11_readsSetup_41 fl_X11_7 rfl rfl (by decide) ?_
  refine go_iconst (y := mX11_readsSetup) (pc := 44) dX11_readsSetup_44 ?_
  refine go_aload_n (y := mX11_readsSetup) (pc := 45) dX11_readsSetup_45 rfl rfl ?_
  refine go_iconst (y := mX11_readsSetup) (pc := 46) dX11_readsSetup_46 ?_
  refine go_bipush (y := mX11_readsSetup) (pc := 47) dX11_readsSetup_47 (by decide) ?_
  refine go_callV2 (y := mX11_readsSetup) (pc := 49) (y' := mX11_number) (kc2 := 0) (ks2 := 0) dX11_readsSetup_49 ml_X11_222 ok_X11_number (show shp 276 = _ from rfl) ⟨_, _, rfl⟩ (by decide) ⟨rfl, rfl⟩ (by decide) (Nat.le_of_ble_eq_true rfl) rfl (m_number (by omega) (by omega) e36 (fun σ49 v49 e49 w49 x49 => ?_))
  have e49 : rom f L (hq3 f L s) σ49 := e49
  refine go_niasW (y := mX11_readsSetup) (pc := 52) (k := 2) dX11_readsSetup_52 (by decide) rfl (by omega)  ?_
  refine go_aload_n (y := mX11_readsSetup) (pc := 53) dX11_readsSetup_53 rfl rfl ?_
  refine go_mref (y := mX11_readsSetup) (pc := 54) dX11_readsSetup_54 fl_X11_7 rfl rfl (by decide) ?_
  refine go_iconst (y := mX11_readsSetup) (pc := 57) dX11_readsSetup_57 ?_
  refine go_aload_n (y := mX11_readsSetup) (pc := 58) dX11_readsSetup_58 rfl rfl ?_
  refine go_iconst (y := mX11_readsSetup) (pc := 59) dX11_readsSetup_59 ?_
  refine go_bipush (y := mX11_readsSetup) (pc := 60) dX11_readsSetup_60 (by decide) ?_
  refine go_callV2 (y := mX11_readsSetup) (pc := 62) (y' := mX11_number) (kc2 := 0) (ks2 := 0) dX11_readsSetup_62 ml_X11_222 ok_X11_number (show shp 276 = _ from rfl) ⟨_, _, rfl⟩ (by decide) ⟨rfl, rfl⟩ (by decide) (Nat.le_of_ble_eq_true rfl) rfl (m_number (by omega) (by omega) e49 (fun σ62 v62 e62 w62 x62 => ?_))
  have e62 : rom f L (hq4 f L s) σ62 := e62
  refine go_niasW (y := mX11_readsSetup) (pc := 65) (k := 3) dX11_readsSetup_65 (by decide) rfl (by omega)  ?_
  refine go_aload_n (y := mX11_readsSetup) (pc := 66) dX11_readsSetup_66 rfl rfl ?_
  refine go_mref (y := mX11_readsSetup) (pc := 67) dX11_readsSetup_67 fl_X11_7 rfl rfl (by decide) ?_
  refine go_iconst (y := mX11_readsSetup) (pc := 70) dX11_readsSetup_70 ?_
  refine go_aload_n (y := mX11_readsSetup) (pc := 71) dX11_readsSetup_71 rfl rfl ?_
  refine go_iconst (y := mX11_readsSetup) (pc := 72) dX11_readsSetup_72 ?_
  refine go_bipush (y := mX11_readsSetup) (pc := 73) dX11_readsSetup_73 (by decide) ?_
  refine go_callV2 (y := mX11_readsSetup) (pc := 75) (y' := mX11_number) (kc2 := 0) (ks2 := 0) dX11_readsSetup_75 ml_X11_222 ok_X11_number (show shp 276 = _ from rfl) ⟨_, _, rfl⟩ (by decide) ⟨rfl, rfl⟩ (by decide) (Nat.le_of_ble_eq_true rfl) rfl (m_number (by omega) (by omega) e62 (fun σ75 v75 e75 w75 x75 => ?_))
  have e75 : rom f L (hq5 f L s) σ75 := e75
  refine go_niasW (y := mX11_readsSetup) (pc := 78) (k := 4) dX11_readsSetup_78 (by decide) rfl (by omega)  ?_
  refine go_aload_n (y := mX11_readsSetup) (pc := 79) dX11_readsSetup_79 rfl rfl ?_
  refine go_mref (y := mX11_readsSetup) (pc := 80) dX11_readsSetup_80 fl_X11_7 rfl rfl (by decide) ?_
  refine go_iconst (y := mX11_readsSetup) (pc := 83) dX11_readsSetup_83 ?_
  refine go_aload_n (y := mX11_readsSetup) (pc := 84) dX11_readsSetup_84 rfl rfl ?_
  refine go_iconst (y := mX11_readsSetup) (pc := 85) dX11_readsSetup_85 ?_
  refine go_bipush (y := mX11_readsSetup) (pc := 86) dX11_readsSetup_86 (by decide) ?_
  refine go_callV2 (y := mX11_readsSetup) (pc := 88) (y' := mX11_number) (kc2 := 0) (ks2 := 0) dX11_readsSetup_88 ml_X11_222 ok_X11_number (show shp 276 = _ from rfl) ⟨_, _, rfl⟩ (by decide) ⟨rfl, rfl⟩ (by decide) (Nat.le_of_ble_eq_true rfl) rfl (m_number (by omega) (by omega) e75 (fun σ88 v88 e88 w88 x88 => ?_))
  have e88 : rom f L (hq6 f L s) σ88 := e88
  refine go_niasW (y := mX11_readsSetup) (pc := 91) (k := 5) dX11_readsSetup_91 (by decide) rfl (by omega)  ?_
  refine go_aload_n (y := mX11_readsSetup) (pc := 92) dX11_readsSetup_92 rfl rfl ?_
  refine go_mref (y := mX11_readsSetup) (pc := 93) dX11_readsSetup_93 fl_X11_7 rfl rfl (by decide) ?_
  refine go_bipush (y := mX11_readsSetup) (pc := 96) dX11_readsSetup_96 (by decide) ?_
  refine go_aload_n (y := mX11_readsSetup) (pc := 98) dX11_readsSetup_98 rfl rfl ?_
  refine go_iconst (y := mX11_readsSetup) (pc := 99) dX11_readsSetup_99 ?_
  refine go_bipush (y := mX11_readsSetup) (pc := 100) dX11_readsSetup_100 (by decide) ?_
  refine go_callV2 (y := mX11_readsSetup) (pc := 102) (y' := mX11_number) (kc2 := 0) (ks2 := 0) dX11_readsSetup_102 ml_X11_222 ok_X11_number (show shp 276 = _ from rfl) ⟨_, _, rfl⟩ (by decide) ⟨rfl, rfl⟩ (by decide) (Nat.le_of_ble_eq_true rfl) rfl (m_number (by omega) (by omega) e88 (fun σ102 v102 e102 w102 x102 => ?_))
  have e102 : rom f L (hq7 f L s) σ102 := e102
  refine go_niasW (y := mX11_readsSetup) (pc := 105) (k := 6) dX11_readsSetup_105 (by decide) rfl (by omega)  ?_
  refine go_aload_n (y := mX11_readsSetup) (pc := 106) dX11_readsSetup_106 rfl rfl ?_
  refine go_bipush (y := mX11_readsSetup) (pc := 107) dX11_readsSetup_107 (by decide) ?_
  refine go_callV1 (y := mX11_readsSetup) (pc := 109) (y' := mX11_takesSign) (kc2 := 0) (ks2 := 0) dX11_readsSetup_109 ml_X11_225 ok_X11_takesSign (show shp 276 = _ from rfl) ⟨_, _, rfl⟩ (by decide) rfl (by decide) (Nat.le_of_ble_eq_true rfl) rfl (m_takesSign (by omega) e102 (fun σ109 e109 w109 => ?_))
  have e109 : rom f L (hq8 f L s) σ109 := e109
  refine go_aload_n (y := mX11_readsSetup) (pc := 112) dX11_readsSetup_112 rfl rfl ?_
  refine go_callV0 (y := mX11_readsSetup) (pc := 113) (y' := mX11_readsMember) (kc2 := 0) (ks2 := 0) dX11_readsSetup_113 ml_X11_230 ok_X11_readsMember (show shp 276 = _ from rfl) ⟨_, _, rfl⟩ (by decide) trivial (by decide) (Nat.le_of_ble_eq_true rfl) rfl (m_readsMember (s := hq8 f L s) (τ := (hdm f L s τ).2) e109 (by rw [wv_n (by decide), wv_n (by decide), wv_n (by decide), wv_n (by decide), wv_n (by decide), wv_n (by decide), wv_n (by decide), hb 8 (by decide)]; exact ⟨by decide, by decide⟩) (fun g => ?_) (fun σ113 ν113 e113 w113 x113 y113 => ?_))
  · obtain ⟨h7, h6, h5, h4, h3, h2, h1, h0⟩ := hq_n g
    exact rls_hdm hb (tkn3_v h1 x24) (tkn3_v h2 x36) (tkn3_v h3 x49) (tkn3_v h4 x62) (tkn3_v h5 x75) (tkn3_v h6 x88) (tkn3_v h7 x102)
  · refine loop 12 (mst f L (hdm f L s τ)) σ113 ν113 e113 (smo_t w113 (smo_t w109 (smo_t w102 (smo_t w88 (smo_t w75 (smo_t w62 (smo_t w49 (smo_t w36 (smo_t w24 (smo_t w13 w8)))))))))) x113 (fun g => ?_) rfl
    obtain ⟨g1, g2, g3⟩ := y113 g
    have g3' : (mst f L (hdm f L s τ)).2 15 7 = (hdm f L s τ).2 15 7 + 1 := g3
    have h7 : (hdm f L s τ).2 15 7 = 0 := rfl
    exact ⟨g1, g2, by omega, by omega⟩
set_option maxRecDepth 8000 in
set_option maxHeartbeats 4000000 in
theorem m_load (hB : okB f L σ) {Q : Option Value → Mem → Prop} {X : String → Mem → Prop} (K : (rdS f L (tkB f L 0, 0, -1) τ).1.2.1 = 0 → ∀ σ' ν', rls (rdS f L (tkB f L 0, 0, -1) τ).2 ν' → wfD (rdS f L (tkB f L 0, 0, -1) τ).2 → 1 ≤ (rdS f L (tkB f L 0, 0, -1) τ).2 15 7 → sm3 σ' (wr (wr (wr (wr (wr (wr (wr σ 0 7 0) 0 9 0) 0 10 0) 0 11 (rdS f L (tkB f L 0, 0, -1) τ).1.2.2) 0 6 0) 6 0 0) 6 1 0) → Q (some (.int (iI 0))) (md σ' ν' μ)) (K2 : (rdS f L (tkB f L 0, 0, -1) τ).1.2.1 ≠ 0 → ∀ σ' ν', (∀ j, j < 418 → ν' j = ν j) → sm3 σ' (wr (wr (wr (wr σ 0 7 0) 0 9 0) 0 10 (rdS f L (tkB f L 0, 0, -1) τ).1.2.1) 0 11 (rdS f L (tkB f L 0, 0, -1) τ).1.2.2) → Q (some (.int (iI (rdS f L (tkB f L 0, 0, -1) τ).1.2.1))) (md σ' ν' μ)) : mt 289 7 0 0 mX11_load [.ref 276] Q X (md σ ν μ) := by
  show go 289 7 0 0 mX11_load Q X 0 [.ref 276, .null] [] _
  obtain ⟨R, eR⟩ : ∃ R, R = rdS f L (tkB f L 0, 0, -1) τ := ⟨_, rfl⟩
  rw [← eR] at K K2
  have loop2 : ∀ (σ1 : Mem) (ν1 : Nat → Int), σ1 0 10 = R.1.2.1 → R.1.2.1 ≠ 0 → (∀ j, j < 418 → σ1 3 j = ν j) → sm3 σ1 (wr (wr (wr (wr σ 0 7 0) 0 9 0) 0 10 R.1.2.1) 0 11 R.1.2.2) → ∀ (n k : Nat), k + n = 418 → go 289 7 0 0 mX11_load Q X 53 [.ref 276, .int (iI (k : Nat))] [] (md σ1 (cpn ν1 σ1 3 0 k) μ) := by
    intro σ1 ν1 hc hne h3 hs n
    induction n using Nat.strongRecOn with
    | _ n ih =>
      intro k hk
      have ih' := ih (n - 1)
      have ew := cpn_s (σ := σ1) (r := 3) (o := 0) (ν := ν1) (k := k)
      rw [Nat.zero_add] at ew
      refine go_iload_n (y := mX11_load) (pc := 53) dX11_load_53 rfl rfl ?_
      refine go_sipush (y := mX11_load) (pc := 54) dX11_load_54 (by decide) ?_
      refine go_icmp_ge (y := mX11_load) (pc := 57) (tgt := 78) dX11_load_57 (by decide) (by omega) (by omega) (fun h57 => ?_) (fun h57 => ?_)
      · skip
        refine go_aload_n (y := mX11_load) (pc := 78) dX11_load_78 rfl rfl ?_
        refine go_mget (y := mX11_load) (pc := 79) dX11_load_79 fl_X11_171 rfl rfl (by decide) (fun r79 => ?_)
        refine go_top (b := R.1.2.1) (hc) (fun t79 => ?_)
        refine go_ireturn (y := mX11_load) (pc := 82) dX11_load_82 rfl ?_
        have e : k = 418 := by omega
        subst e
        exact K2 hne σ1 _ (fun j hj => by rw [cpn_e hj, Nat.zero_add]; exact h3 j hj) hs
      · skip
        refine go_aload_n (y := mX11_load) (pc := 60) dX11_load_60 rfl rfl ?_
        refine go_mref (y := mX11_load) (pc := 61) dX11_load_61 fl_X11_7 rfl rfl (by decide) ?_
        refine go_iload_n (y := mX11_load) (pc := 64) dX11_load_64 rfl rfl ?_
        refine go_aload_n (y := mX11_load) (pc := 65) dX11_load_65 rfl rfl ?_
        refine go_mref (y := mX11_load) (pc := 66) dX11_load_66 fl_X11_16 rfl rfl (by decide) ?_
        refine go_iload_n (y := mX11_load) (pc := 69) dX11_load_69 rfl rfl ?_
        refine go_mial (y := mX11_load) (pc := 70) (r := 3) (k := k) dX11_load_70 (by decide) (by decide) rfl (by decide) rfl (by omega) (by decide) (fun r70 => ?_)
        refine go_nias (y := mX11_load) (pc := 71) (k := k) dX11_load_71 (by decide) rfl (by omega) (by omega) ?_
        refine go_iinc (y := mX11_load) (pc := 72) dX11_load_72 rfl (by decide) ?_
        refine go_goto (y := mX11_load) (pc := 75) (tgt := 53) dX11_load_75 (by decide) ?_
        rw [ew]
        exact ih' (by omega) (k + 1) (by omega)
  have loop1 : ∀ (n k : Nat), k + n = 418 → go 289 7 0 0 mX11_load Q X 7 [.ref 276, .int (iI (k : Nat))] [] (md (cpw (wr σ 0 7 0) 3 0 ν k) ν μ) := by
    intro n
    induction n using Nat.strongRecOn with
    | _ n ih =>
      intro k hk
      have ih' := ih (n - 1)
      have ew := cpw_s (σ := wr σ 0 7 0) (r := 3) (o := 0) (ν := ν) (k := k)
      rw [Nat.zero_add] at ew
      have hB1 : okB f L (cpw (wr σ 0 7 0) 3 0 ν k) := by
        obtain ⟨b1, b2, b3, b4⟩ := hB
        exact ⟨by rw [cpw_o (Or.inl (by decide)), wr_ni (by decide)]; exact b1, b2, fun i hi => by rw [cpw_o (Or.inl (by decide)), wr_na (by decide)]; exact b3 i hi, b4⟩
      refine go_iload_n (y := mX11_load) (pc := 7) dX11_load_7 rfl rfl ?_
      refine go_sipush (y := mX11_load) (pc := 8) dX11_load_8 (by decide) ?_
      refine go_icmp_ge (y := mX11_load) (pc := 11) (tgt := 32) dX11_load_11 (by decide) (by omega) (by omega) (fun h11 => ?_) (fun h11 => ?_)
      · skip
        have e : k = 418 := by omega
        subst e
        have base : ∀ (σ41 σ37 : Mem), smo σ41 σ37 → smo σ37 (cpw (wr σ 0 7 0) 3 0 ν 418) → ∀ c p : Int, sm3 (wr (wr (wr σ41 0 9 0) 0 10 c) 0 11 p) (wr (wr (wr (wr σ 0 7 0) 0 9 0) 0 10 c) 0 11 p) := by
          intro σ41 σ37 w1 w2 c p r j hj hr3
          have h9 := (w1 r j hj).trans (w2 r j hj)
          rw [cpw_o (Or.inl hr3)] at h9
          unfold wr at h9 ⊢
          (repeat' split) <;> first | rfl | (rw [h9]; (repeat' split) <;> first | rfl | omega) | omega
        refine go_aload_n (y := mX11_load) (pc := 32) dX11_load_32 rfl rfl ?_
        refine go_callV0 (y := mX11_load) (pc := 33) (y' := mX11_begins) (kc2 := 0) (ks2 := 0) dX11_load_33 ml_X11_70 ok_X11_begins (show shp 276 = _ from rfl) ⟨_, _, rfl⟩ (by decide) trivial (by decide) (Nat.le_of_ble_eq_true rfl) rfl (m_begins ?_)
        refine go_aload_n (y := mX11_load) (pc := 36) dX11_load_36 rfl rfl ?_
        refine go_callV0 (y := mX11_load) (pc := 37) (y' := mX11_starts) (kc2 := 0) (ks2 := 0) dX11_load_37 ml_X11_73 ok_X11_starts (show shp 276 = _ from rfl) ⟨_, _, rfl⟩ (by decide) trivial (by decide) (Nat.le_of_ble_eq_true rfl) rfl (m_starts (f := f) (L := L) hB1 (fun σ37 e37 w37 => ?_))
        refine go_aload_n (y := mX11_load) (pc := 40) dX11_load_40 rfl rfl ?_
        refine go_callV0 (y := mX11_load) (pc := 41) (y' := mX11_readsSetup) (kc2 := 0) (ks2 := 0) dX11_load_41 ml_X11_76 ok_X11_readsSetup (show shp 276 = _ from rfl) ⟨_, _, rfl⟩ (by decide) trivial (by decide) (Nat.le_of_ble_eq_true rfl) rfl (m_readsSetup (τ := τ) e37 (fun j hj => bgn_e hj) (fun σ41 ν41 e41 w41 x41 => ?_))
        rw [← eR] at e41 x41
        refine go_aload_n (y := mX11_load) (pc := 44) dX11_load_44 rfl rfl ?_
        refine go_callV0 (y := mX11_load) (pc := 45) (y' := mX11_isWhole) (kc2 := 0) (ks2 := 0) dX11_load_45 ml_X11_233 ok_X11_isWhole (show shp 276 = _ from rfl) ⟨_, _, rfl⟩ (by decide) trivial (by decide) (Nat.le_of_ble_eq_true rfl) rfl (m_isWhole e41 (fun v45 e45 b45 => ?_))
        refine go_if_ne (y := mX11_load) (pc := 48) (tgt := 83) dX11_load_48 (by decide) (by omega) (fun h48 => ?_) (fun h48 => ?_)
        · skip
          have g := bI_1 e45 h48
          have hx := x41 g
          have hb9 := base σ41 σ37 w41 w37 R.1.2.1 R.1.2.2
          refine go_aload_n (y := mX11_load) (pc := 83) dX11_load_83 rfl rfl ?_
          refine go_iconst (y := mX11_load) (pc := 84) dX11_load_84 ?_
          refine go_mput (y := mX11_load) (pc := 85) dX11_load_85 fp_X11_237 rfl rfl (by decide) (by omega) ?_
          refine go_aload_n (y := mX11_load) (pc := 88) dX11_load_88 rfl rfl ?_
          refine go_mref (y := mX11_load) (pc := 89) dX11_load_89 fl_X11_25 rfl rfl (by decide) ?_
          refine go_iconst (y := mX11_load) (pc := 92) dX11_load_92 ?_
          refine go_iconst (y := mX11_load) (pc := 93) dX11_load_93 ?_
          refine go_mzas (y := mX11_load) (pc := 94) (r := 6) (k := 0) dX11_load_94 (by decide) (by decide) rfl (by decide) rfl (by omega) (by decide) (by omega) ?_
          refine go_aload_n (y := mX11_load) (pc := 95) dX11_load_95 rfl rfl ?_
          refine go_mref (y := mX11_load) (pc := 96) dX11_load_96 fl_X11_25 rfl rfl (by decide) ?_
          refine go_iconst (y := mX11_load) (pc := 99) dX11_load_99 ?_
          refine go_iconst (y := mX11_load) (pc := 100) dX11_load_100 ?_
          refine go_mzas (y := mX11_load) (pc := 101) (r := 6) (k := 1) dX11_load_101 (by decide) (by decide) rfl (by decide) rfl (by omega) (by decide) (by omega) ?_
          refine go_iconst (y := mX11_load) (pc := 102) dX11_load_102 ?_
          refine go_ireturn (y := mX11_load) (pc := 103) dX11_load_103 rfl ?_
          refine K g _ _ hx.1 hx.2.1 hx.2.2 (fun r j hj hr3 => ?_)
          have h9 := hb9 r j hj hr3
          rw [g] at h9 ⊢
          have q : ∀ (α β : Mem), α r j = β r j → wr (wr (wr α 0 6 0) 6 0 0) 6 1 0 r j = wr (wr (wr β 0 6 0) 6 0 0) 6 1 0 r j := by
            intro α β h
            unfold wr
            rw [h]
          exact q _ _ h9
        · skip
          have g := bI_0 e45 h48
          have hb9 := base σ41 σ37 w41 w37 R.1.2.1 R.1.2.2
          refine go_iconst (y := mX11_load) (pc := 51) dX11_load_51 ?_
          refine go_istore_n (y := mX11_load) (pc := 52) dX11_load_52 rfl (by decide) ?_
          have h := loop2 _ ν41 (by rw [wr_ni (by decide), wr_s]) g (fun j hj => ?_) hb9 418 0 rfl
          · rw [cpn_0] at h
            exact h
          · rw [wr_na (by decide), wr_na (by decide), wr_na (by decide), w41 3 j (Or.inl (by decide)), w37 3 j (Or.inl (by decide))]
            have h9 := cpw_e (σ := wr σ 0 7 0) (r := 3) (o := 0) (ν := ν) (k := 418) hj
            rw [Nat.zero_add] at h9
            exact h9
      · skip
        refine go_aload_n (y := mX11_load) (pc := 14) dX11_load_14 rfl rfl ?_
        refine go_mref (y := mX11_load) (pc := 15) dX11_load_15 fl_X11_16 rfl rfl (by decide) ?_
        refine go_iload_n (y := mX11_load) (pc := 18) dX11_load_18 rfl rfl ?_
        refine go_aload_n (y := mX11_load) (pc := 19) dX11_load_19 rfl rfl ?_
        refine go_mref (y := mX11_load) (pc := 20) dX11_load_20 fl_X11_7 rfl rfl (by decide) ?_
        refine go_iload_n (y := mX11_load) (pc := 23) dX11_load_23 rfl rfl ?_
        refine go_nial (y := mX11_load) (pc := 24) (k := k) dX11_load_24 (by decide) rfl (by omega) (fun r24 => ?_)
        refine go_mias (y := mX11_load) (pc := 25) (r := 3) (k := k) dX11_load_25 (by decide) (by decide) rfl (by decide) rfl (by omega) (by decide) (by omega) ?_
        refine go_iinc (y := mX11_load) (pc := 26) dX11_load_26 rfl (by decide) ?_
        refine go_goto (y := mX11_load) (pc := 29) (tgt := 7) dX11_load_29 (by decide) ?_
        rw [ew]
        exact ih' (by omega) (k + 1) (by omega)
  have h := loop1 418 0 rfl
  rw [cpw_0] at h
  refine go_aload_n (y := mX11_load) (pc := 0) dX11_load_0 rfl rfl ?_
  refine go_iconst (y := mX11_load) (pc := 1) dX11_load_1 ?_
  refine go_mput (y := mX11_load) (pc := 2) dX11_load_2 fp_X11_83 rfl rfl (by decide) (by omega) ?_
  refine go_iconst (y := mX11_load) (pc := 5) dX11_load_5 ?_
  refine go_istore_n (y := mX11_load) (pc := 6) dX11_load_6 rfl (by decide) ?_
  exact h
end MSetup2
