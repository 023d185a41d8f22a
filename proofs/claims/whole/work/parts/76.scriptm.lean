/-! THE MODEL RUNS A SCRIPT -/
theorem kp0_n {σ : Mem} {r j : Nat} (h : r ≠ 4) (h6 : r ≠ 0 ∨ j ≠ 6) : kp0 σ r j = σ r j := by
  unfold kp0
  by_cases g : σ 0 6 = 8
  · rw [if_pos g, wr_n (by omega)]
    unfold kp1
    exact if_neg (by omega)
  · rw [if_neg g]
theorem kps_n {σ : Mem} {ν : Nat → Int} {r j : Nat} (h : r ≠ 4) (h6 : r ≠ 0 ∨ j ≠ 6) : kps σ ν r j = σ r j := by
  unfold kps
  rw [wr_n (by omega)]
  unfold kp2
  rw [if_neg (by omega)]
  exact kp0_n h h6
theorem kp0_c {σ σ' : Mem} (h4 : ∀ j, σ' 4 j = σ 4 j) (h6 : σ' 0 6 = σ 0 6) : (∀ j, kp0 σ' 4 j = kp0 σ 4 j) ∧ kp0 σ' 0 6 = kp0 σ 0 6 := by
  unfold kp0
  rw [h6]
  by_cases g : σ 0 6 = 8
  · rw [if_pos g, if_pos g]
    refine ⟨fun j => ?_, by rw [wr_s, wr_s]⟩
    rw [wr_na (by decide), wr_na (by decide)]
    unfold kp1
    rw [h4 j, h4 (j + 418)]
  · rw [if_neg g, if_neg g]
    exact ⟨h4, h6⟩
theorem kps_c {σ σ' : Mem} {ν : Nat → Int} (h4 : ∀ j, σ' 4 j = σ 4 j) (h6 : σ' 0 6 = σ 0 6) : (∀ j, kps σ' ν 4 j = kps σ ν 4 j) ∧ kps σ' ν 0 6 = kps σ ν 0 6 := by
  obtain ⟨g4, g6⟩ := kp0_c h4 h6
  unfold kps
  refine ⟨fun j => ?_, by rw [wr_s, wr_s, g6]⟩
  rw [wr_na (by decide), wr_na (by decide), g6]
  unfold kp2
  rw [g4 j]
theorem kps_6 {σ : Mem} {ν : Nat → Int} (h : 0 ≤ σ 0 6 ∧ σ 0 6 ≤ 8) : 0 ≤ kps σ ν 0 6 ∧ kps σ ν 0 6 ≤ 8 := by
  unfold kps
  rw [wr_s]
  unfold kp0
  by_cases g : σ 0 6 = 8
  · rw [if_pos g, wr_s]
    decide
  · rw [if_neg g]
    omega
/-- what lasts beyond a script is the same -/
def smS (σ' κ : Mem) : Prop := ∀ r j : Nat, ((r ≠ 0 ∧ (r < 8 ∨ 11 < r)) ∨ (r = 0 ∧ (j = 6 ∨ j = 26))) → σ' r j = κ r j
theorem gon_v {f : Int → Int} {L : Nat} {s : Sta} : (gon f L s).2 = s.2 := by
  unfold gon
  split
  · rename_i h
    exact Prod.ext h.symm rfl
  · rfl
section MScript
variable {M σ μ : Mem} {ν : Nat → Int} {f : Int → Int} {L : Nat}
set_option maxRecDepth 8000 in
set_option maxHeartbeats 4000000 in
theorem m_runScript (ht : okT f L M) (hB : okB f L σ) (hrl : rel (su M) (vw 20 M) ν) (hS : wfS (su M)) (hC : wfC (su M) (vw 20 M)) (hN : ∀ m : Nat, (m : Int) < su M 0 7 → isn 6 (su M 1 m)) (h6 : 0 ≤ σ 0 6 ∧ σ 0 6 ≤ 8) (h24 : σ 0 24 = 0) {n : Nat} (hw : (rdE f L M).2.1 = 0 → wfb (rdB f L M).2 2 n 0 ((rdB f L M).2 4 5).toNat) {Q : Option Value → Mem → Prop} {X : String → Mem → Prop} (K : (rdE f L M).2.1 = 0 → ∀ σ' ν', rel (su M) (rnX f L M n).1 ν' → smS σ' (kps σ ν) → σ' 0 9 = 0 → σ' 0 10 = 0 → σ' 0 11 = (rdE f L M).2.2 → σ' 0 24 = 0 → Q (some (.int (iI (rnX f L M n).2.1))) (md σ' ν' μ)) (K2 : (rdE f L M).2.1 ≠ 0 → ∀ σ', smS σ' σ → σ' 0 9 = 0 → σ' 0 10 = (rdE f L M).2.1 → σ' 0 11 = (rdE f L M).2.2 → σ' 0 24 = 0 → Q (some (.int (iI (-1)))) (md σ' ν μ)) : mt 289 15 0 0 mX11_runScript [.ref 276] Q X (md σ ν μ) := by
  show go 289 15 0 0 mX11_runScript Q X 0 [.ref 276, .null] [] _
  obtain ⟨R, eR⟩ : ∃ R, R = rdB f L M := ⟨_, rfl⟩
  obtain ⟨E, eE⟩ : ∃ E, E = mus R.1 (tkK f R.1.1 = 0) 1 := ⟨_, rfl⟩
  have eE1 : (rdE f L M).2 = E.2 := by
    unfold rdE
    rw [gon_v, ← eR, ← eE]
  rw [eE1] at K K2 hw
  have hI := okI_0 ht hS
  have cb : 0 ≤ R.2 4 5 ∧ R.2 4 5 ≤ 30 := by rw [eR]; exact (pv_2 _ hI).2.2
  have h45 : sc0 M 4 5 = 0 := by unfold sc0; rw [wr_ni (by decide), wr_ni (by decide), wr_s]
  have hT : nmT (su M) (sc0 M) := ⟨by rw [sc0_o (by decide)]; rfl, fun m => by rw [sc0_o (by decide)]; rfl⟩
  have tb := tkT_b (f := f) (b := R.1.1)
  have eb : tkT f R.1.1 = 0 ↔ tkK f R.1.1 = 0 := tkT_0
  have J32 : ∀ (c : Int) (σ1 : Mem), c = bI (tkK f R.1.1 = 0) → rom f L (fxS f R.1) σ1 → smF 0 σ1 (wr σ 0 7 0) → ((fxS f R.1).2.1 = 0 → crs 2 0 R.2 σ1) → go 289 15 0 0 mX11_runScript Q X 32 [.ref 276, .null] [.int (iI c), .ref 276] (md σ1 ν μ) := by
    intro c σ1 hc h1 hsF hcr
    refine go_iconst (y := mX11_runScript) (pc := 32) dX11_runScript_32 ?_
    refine go_callV2 (y := mX11_runScript) (pc := 33) (y' := mX11_must) (kc2 := 0) (ks2 := 0) dX11_runScript_33 ml_X11_205 ok_X11_must (show shp 276 = _ from rfl) ⟨_, _, rfl⟩ (by decide) ⟨rfl, rfl⟩ (by decide) (Nat.le_of_ble_eq_true rfl) rfl (m_must hc (by decide) h1 (fun σ33 v33 e33 w33 b33 c33 => ?_))
    rw [end_fx, ← eE] at e33 b33
    refine go_pop (y := mX11_runScript) (pc := 36) dX11_runScript_36 rfl ?_
    refine go_aload_n (y := mX11_runScript) (pc := 37) dX11_runScript_37 rfl rfl ?_
    refine go_callV0 (y := mX11_runScript) (pc := 38) (y' := mX11_isWhole) (kc2 := 0) (ks2 := 0) dX11_runScript_38 ml_X11_233 ok_X11_isWhole (show shp 276 = _ from rfl) ⟨_, _, rfl⟩ (by decide) trivial (by decide) (Nat.le_of_ble_eq_true rfl) rfl (m_isWhole e33 (fun v38 e38 b38 => ?_))
    refine go_if_ne (y := mX11_runScript) (pc := 41) (tgt := 46) dX11_runScript_41 (by decide) (by omega) (fun h41 => ?_) (fun h41 => ?_)
    · skip
      have g := bI_1 e38 h41
      have gR : R.1.2.1 = 0 := (mus_0 (show (1 : Int) ≠ 0 by decide) (by rw [← eE]; exact g)).1
      obtain ⟨cr1, cr2, -⟩ := hcr (mus_0 (show (1 : Int) ≠ 0 by decide) (by rw [end_fx, ← eE]; exact g : (mus (fxS f R.1) (tkK f R.1.1 = 0) 1).2.1 = 0)).1
      obtain ⟨τ, eτ⟩ : ∃ τ, τ = wr (wr (wr σ33 0 9 0) 0 10 E.2.1) 0 11 E.2.2 := ⟨_, rfl⟩
      have τo : ∀ r j, (r ≠ 0 ∨ j < 9 ∨ j = 22 ∨ j = 23 ∨ j = 24 ∨ j = 26) → τ r j = σ1 r j := fun r j hj => by
        rw [eτ, wr_n (by omega), wr_n (by omega), wr_n (by omega)]
        exact w33 r j (by omega)
      have τs : ∀ r j, ((r ≠ 0 ∧ (r < 8 ∨ 11 < r)) ∨ (r = 0 ∧ (j = 6 ∨ j = 26))) → τ r j = σ r j := fun r j hj => by
        rw [τo r j (by omega), hsF r j (by omega) (by omega), wr_n (by omega)]
      have τ6 : τ 0 6 = σ 0 6 := τs 0 6 (by decide)
      have τ4 : ∀ j, τ 4 j = σ 4 j := fun j => τs 4 j (Or.inl ⟨by decide, Or.inl (by decide)⟩)
      obtain ⟨κ4, κ6⟩ := kps_c (ν := ν) τ4 τ6
      obtain ⟨c9, ec9⟩ : ∃ c9, c9 = (R.2 4 5).toNat := ⟨_, rfl⟩
      obtain ⟨w1, -, w3⟩ := wr_2 (f := f) (L := L) (st0 f L, sc0 M) hI (by show (rdB f L M).1.2.1 = 0; rw [← eR]; exact gR)
      have w3 : ∀ k : Nat, k < c9 → okC R.2 k := fun k hk => by
        rw [eR]
        refine w3 k ?_ (by rw [ec9, eR] at hk; exact hk)
        show ((sc0 M) 4 5).toNat ≤ k
        rw [h45]
        exact Nat.zero_le k
      have hw9 := hw g
      rw [← eR, ← ec9] at hw9
      have hP : okP R.2 c9 := ⟨by omega, fun k hk => w3 k hk⟩
      have hcr9 : ∀ k : Nat, 0 ≤ k → k < c9 → crel R.2 (wr (wr (kps τ ν) 0 24 1) 0 23 0) k := fun k _ hk => crel_f (cr2 k (Nat.zero_le k) (by omega)) (fun _ _ _ => rfl) (fun a h8 h11 => by
        rw [wr_na (by omega), wr_na (by omega), kps_n (by omega) (by omega)]
        exact τo a k (by omega))
      have k6 : 0 ≤ wr (wr (kps τ ν) 0 24 1) 0 23 0 0 6 ∧ wr (wr (kps τ ν) 0 24 1) 0 23 0 0 6 ≤ 8 := by
        rw [wr_ni (by decide), wr_ni (by decide)]
        exact kps_6 (by rw [τ6]; exact h6)
      have eX : rnB R.2 (su M) n 0 c9 (vw 20 M, 0, false) = rnX f L M n := by
        rw [ec9, eR]
        rfl
      refine go_mem (show _ = md τ ν μ by rw [eτ]) ?_
      refine go_aload_n (y := mX11_runScript) (pc := 46) dX11_runScript_46 rfl rfl ?_
      refine go_callV0 (y := mX11_runScript) (pc := 47) (y' := mX11_keeps) (kc2 := 0) (ks2 := 0) dX11_runScript_47 ml_X11_332 ok_X11_keeps (show shp 276 = _ from rfl) ⟨_, _, rfl⟩ (by decide) trivial (by decide) (Nat.le_of_ble_eq_true rfl) rfl (m_keeps (by rw [τ6]; exact h6.1) (by rw [τ6]; exact h6.2) ?_)
      refine go_aload_n (y := mX11_runScript) (pc := 50) dX11_runScript_50 rfl rfl ?_
      refine go_iconst (y := mX11_runScript) (pc := 51) dX11_runScript_51 ?_
      refine go_mputZ (y := mX11_runScript) (pc := 52) dX11_runScript_52 fp_X11_335 rfl rfl (by decide) (by omega) ?_
      refine go_aload_n (y := mX11_runScript) (pc := 55) dX11_runScript_55 rfl rfl ?_
      refine go_iconst (y := mX11_runScript) (pc := 56) dX11_runScript_56 ?_
      refine go_mput (y := mX11_runScript) (pc := 57) dX11_runScript_57 fp_X11_326 rfl rfl (by decide) (by omega) ?_
      refine go_aload_n (y := mX11_runScript) (pc := 60) dX11_runScript_60 rfl rfl ?_
      refine go_iconst (y := mX11_runScript) (pc := 61) dX11_runScript_61 ?_
      refine go_aload_n (y := mX11_runScript) (pc := 62) dX11_runScript_62 rfl rfl ?_
      refine go_mget (y := mX11_runScript) (pc := 63) dX11_runScript_63 fl_X11_261 rfl rfl (by decide) (fun r63 => ?_)
      refine go_top (b := ((c9 : Nat) : Int)) ((by rw [wr_ni (by decide), wr_ni (by decide), kps_n (by decide) (by decide), τo 0 22 (by decide), cr1]; omega)) (fun t63 => ?_)
      refine go_callV2 (y := mX11_runScript) (pc := 66) (y' := mX11_doesAll) (kc2 := 0) (ks2 := 0) dX11_runScript_66 ml_X11_323 ok_X11_doesAll (show shp 276 = _ from rfl) ⟨_, _, rfl⟩ (by decide) ⟨rfl, rfl⟩ (by decide) (Nat.le_of_ble_eq_true rfl) rfl (m_doesAll2 (τ := R.2) (b9 := c9) (x := (vw 20 M, 0, false)) hw9 (Nat.zero_le 30) hP (Nat.le_refl c9) hcr9 (by rw [wr_ni (by decide), wr_s]; decide) k6 (wr_s _ _ _ _) rfl hrl hS ⟨hC, Int.le_refl 0, show (0 : Int) ≤ 40 by decide⟩ (fun σ66 ν66 v66 e66 b66 x66 w66 y66 => ?_))
      rw [eX] at x66 y66
      refine go_istore_n (y := mX11_runScript) (pc := 69) dX11_runScript_69 rfl (by decide) ?_
      refine go_aload_n (y := mX11_runScript) (pc := 70) dX11_runScript_70 rfl rfl ?_
      refine go_iconst (y := mX11_runScript) (pc := 71) dX11_runScript_71 ?_
      refine go_mputZ (y := mX11_runScript) (pc := 72) dX11_runScript_72 fp_X11_335 rfl rfl (by decide) (by omega) ?_
      refine go_aload_n (y := mX11_runScript) (pc := 75) dX11_runScript_75 rfl rfl ?_
      refine go_iconst (y := mX11_runScript) (pc := 76) dX11_runScript_76 ?_
      refine go_mput (y := mX11_runScript) (pc := 77) dX11_runScript_77 fp_X11_83 rfl rfl (by decide) (by omega) ?_
      refine go_aload_n (y := mX11_runScript) (pc := 80) dX11_runScript_80 rfl rfl ?_
      refine go_mget (y := mX11_runScript) (pc := 81) dX11_runScript_81 fl_X11_326 rfl rfl (by decide) (fun r81 => ?_)
      refine go_top (b := (rnX f L M n).2.1) ((by rw [wr_ni (by decide), wr_ni (by decide)]; exact y66)) (fun t81 => ?_)
      refine go_ireturn (y := mX11_runScript) (pc := 84) dX11_runScript_84 rfl ?_
      have F : ∀ r j, (r ≠ 0 ∨ (j ≠ 7 ∧ j ≠ 23 ∧ j ≠ 24)) → wr (wr σ66 0 24 0) 0 7 0 r j = kps τ ν r j := fun r j hj => by
        rw [wr_n (by omega), wr_n (by omega), w66 r j (by omega), wr_n (by omega), wr_n (by omega)]
      refine K g _ ν66 x66 (fun r j hj => ?_) ?_ ?_ ?_ ?_
      · rw [F r j (by omega)]
        by_cases q4 : r = 4
        · rw [q4]
          exact κ4 j
        · by_cases q6 : r = 0 ∧ j = 6
          · rw [q6.1, q6.2]
            exact κ6
          · rw [kps_n q4 (by omega), kps_n q4 (by omega)]
            exact τs r j hj
      · rw [F 0 9 (by decide), kps_n (by decide) (by decide), eτ, wr_ni (by decide), wr_ni (by decide), wr_s]
      · rw [F 0 10 (by decide), kps_n (by decide) (by decide), eτ, wr_ni (by decide), wr_s]
        exact g
      · rw [F 0 11 (by decide), kps_n (by decide) (by decide), eτ, wr_s]
      · rw [wr_ni (by decide), wr_s]
    · skip
      have g := bI_0 e38 h41
      refine go_iconst (y := mX11_runScript) (pc := 44) dX11_runScript_44 ?_
      refine go_ireturn (y := mX11_runScript) (pc := 45) dX11_runScript_45 rfl ?_
      refine K2 g _ (fun r j hj => ?_) ?_ ?_ ?_ ?_
      · rw [wr_n (by omega), wr_n (by omega), wr_n (by omega), w33 r j (by omega), hsF r j (by omega) (by omega), wr_n (by omega)]
      · rw [wr_ni (by decide), wr_ni (by decide), wr_s]
      · rw [wr_ni (by decide), wr_s]
      · rw [wr_s]
      · rw [wr_ni (by decide), wr_ni (by decide), wr_ni (by decide), w33 0 24 (by decide), hsF 0 24 (by decide) (by decide), wr_ni (by decide)]
        exact h24
  refine go_aload_n (y := mX11_runScript) (pc := 0) dX11_runScript_0 rfl rfl ?_
  refine go_iconst (y := mX11_runScript) (pc := 1) dX11_runScript_1 ?_
  refine go_mput (y := mX11_runScript) (pc := 2) dX11_runScript_2 fp_X11_83 rfl rfl (by decide) (by omega) ?_
  refine go_aload_n (y := mX11_runScript) (pc := 5) dX11_runScript_5 rfl rfl ?_
  refine go_callV0 (y := mX11_runScript) (pc := 6) (y' := mX11_starts) (kc2 := 0) (ks2 := 0) dX11_runScript_6 ml_X11_73 ok_X11_starts (show shp 276 = _ from rfl) ⟨_, _, rfl⟩ (by decide) trivial (by decide) (Nat.le_of_ble_eq_true rfl) rfl (m_starts (f := f) (L := L) (okB_w hB (by decide)) (fun σ6 e6 w6 => ?_))
  refine go_aload_n (y := mX11_runScript) (pc := 9) dX11_runScript_9 rfl rfl ?_
  refine go_iconst (y := mX11_runScript) (pc := 10) dX11_runScript_10 ?_
  refine go_mput (y := mX11_runScript) (pc := 11) dX11_runScript_11 fp_X11_261 rfl rfl (by decide) (by omega) ?_
  refine go_aload_n (y := mX11_runScript) (pc := 14) dX11_runScript_14 rfl rfl ?_
  refine go_iconst (y := mX11_runScript) (pc := 15) dX11_runScript_15 ?_
  refine go_callV1 (y := mX11_runScript) (pc := 16) (y' := mX11_readsCommands) (kc2 := 0) (ks2 := 0) dX11_runScript_16 ml_X11_258 ok_X11_readsCommands (show shp 276 = _ from rfl) ⟨_, _, rfl⟩ (by decide) rfl (by decide) (Nat.le_of_ble_eq_true rfl) rfl (m_readsCommands2 (τ := sc0 M) (rom_w e6 (Or.inr ⟨rfl, rfl⟩)) (fun _ => by rw [wr_s]; exact h45.symm) hI hrl hS hN hT (fun σ16 e16 w16 c16 => ?_))
  rw [show bk2 f L ((tkB f L 0, 0, -1), sc0 M) = R from eR.symm] at e16 c16
  have w9 : smF 0 σ16 (wr σ 0 7 0) := by
    rw [h45] at w16
    exact smF_t w16 (smF_t (smF_w (Or.inr ⟨rfl, rfl⟩)) (smF_s w6))
  have c9 : (fxS f R.1).2.1 = 0 → crs 2 0 R.2 σ16 := fun w => by
    have h9 := c16 w
    rw [h45] at h9
    exact h9
  refine go_aload_n (y := mX11_runScript) (pc := 19) dX11_runScript_19 rfl rfl ?_
  refine go_aload_n (y := mX11_runScript) (pc := 20) dX11_runScript_20 rfl rfl ?_
  refine go_mget (y := mX11_runScript) (pc := 21) dX11_runScript_21 fl_X11_183 rfl rfl (by decide) (fun r21 => ?_)
  refine go_top (b := tkT f R.1.1) ((by rw [e16.2.2.1, fxS_1])) (fun t21 => ?_)
  refine go_if_ne (y := mX11_runScript) (pc := 24) (tgt := 31) dX11_runScript_24 (by decide) (by omega) (fun q24 => ?_) (fun q24 => ?_)
  · skip
    refine go_iconst (y := mX11_runScript) (pc := 31) dX11_runScript_31 ?_
    exact J32 0 σ16 (bI_f (fun w => q24 (eb.mpr w))).symm e16 w9 c9
  · skip
    refine go_iconst (y := mX11_runScript) (pc := 27) dX11_runScript_27 ?_
    refine go_goto (y := mX11_runScript) (pc := 28) (tgt := 32) dX11_runScript_28 (by decide) ?_
    exact J32 1 σ16 (bI_t (eb.mp q24)).symm e16 w9 c9
end MScript
