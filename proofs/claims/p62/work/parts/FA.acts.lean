/-! THE LAW's acts -/
theorem clp_s {v : Int} (h : -20 ≤ v ∧ v ≤ 20) : clp v = v := by rw [clp_i, if_neg (by omega), if_neg (by omega)]
set_option maxRecDepth 8000 in
set_option maxHeartbeats 4000000 in
theorem l_acts {L : Nat} {xs : Nat → Int32} (hL : L ≤ 300) {w : Nat} (hw : is_ow w) (hz : w + 17 ≤ 293) {σ ω M : Mem} {T : Int} {n : Nat} (hB : HB M σ n) (hG : GD (su M) σ ω T) (hT8 : T ≤ 8000) {i0 : Nat} (hi0 : i0 < 1000) {Q : Option Value → Mem → Prop} {X : String → Mem → Prop} (K : Q (some (.int (iI (-1)))) (ow w ω (put 20 σ M))) (K2 : ∀ σ' ω' τ, eqC τ σ → GD (su M) σ' ω' (T + 60) → Q (some (.int (iI 1))) (ow w ω' (put 20 σ' (hst M n τ)))) : mt 293 9 0 0 (mL_acts L xs) [.ref 0, .ref w, .ref 6000, .int (iI (i0 : Nat))] Q X (ow w ω (put 20 σ M)) := by
  show go 293 9 0 0 (mL_acts L xs) Q X 0 [.ref 0, .ref w, .ref 6000, .int (iI (i0 : Nat)), .null, .null, .null, .null, .null, .null] [] _
  obtain ⟨hC, hR, hZ, hLi, h5, hT⟩ := id hG
  have hS := hB.hS
  have n1 := wf_n hS
  have r1 := wf_r hS hC
  obtain ⟨a, ha⟩ := Int.eq_ofNat_of_zero_le r1.1
  obtain ⟨nm, hnm⟩ := Int.eq_ofNat_of_zero_le (show 0 ≤ su M 0 7 by omega)
  have e8 : ω 0 8 = (nm : Int) := hR.1.2.2.2.2.2.2.2.2.1.trans hnm
  have e9 : ω 0 9 = (a : Int) := hR.1.2.2.2.2.2.2.2.2.2.1.trans ha
  have K2' : ∀ σ' ω' τ, eqC τ σ → GD (su M) σ' ω' T → Q (some (.int (iI 1))) (ow w ω' (put 20 σ' (hst M n τ))) := fun σ' ω' τ e g => K2 σ' ω' τ e (GD_mono g (by omega))
  -- minutes
  have J368 : ∀ (kd m v nn : Nat), 1 ≤ nn → nn ≤ 60 → go 293 9 0 0 (mL_acts L xs) Q X 368 [.ref 0, .ref w, .ref 6000, .int (iI (i0 : Nat)), .int (iI (kd : Nat)), .int (iI (m : Nat)), .int (iI (v : Nat)), .int (iI (ω 0 16)), .null, .null] [.int (iI (nn : Nat))] (ow w ω (put 20 σ M)) := by
    intro kd m v nn hn1 hn2
    have pz := fun k hk => pms_z hS hC hZ hLi (by omega) ⟨h5, by omega⟩ k hk
    have J390 : ∀ (ωk : Mem), own (su M) (pms (su M) σ nn).1 ωk → iI (ωk 0 16) = iI (ω 0 16 + (pms (su M) σ nn).2) → go 293 9 0 0 (mL_acts L xs) Q X 390 [.ref 0, .ref w, .ref 6000, .int (iI (i0 : Nat)), .int (iI (kd : Nat)), .int (iI (m : Nat)), .int (iI (v : Nat)), .int (iI (ω 0 16)), .int (iI (nn : Nat)), .int (iI (nn : Nat))] [] (ow w ωk (put 20 σ M)) := by
      intro ωk hk he
      obtain ⟨z1, z2, z3, z4⟩ := pz nn (by omega)
      have hb := (wf_pms hS hC nn).2
      refine go_aload_n (y := (mL_acts L xs)) (pc := 390) dL_acts_390 rfl rfl ?_
      refine go_iload (y := (mL_acts L xs)) (pc := 391) dL_acts_391 rfl ?_
      refine go_callV1 (y := (mL_acts L xs)) (pc := 393) (y' := mX10_advance) (kc2 := 0) (ks2 := 0) dL_acts_393 ml_L_333 ok_X10_advance (show shp 0 = _ from rfl) ⟨_, _, rfl⟩ (by decide) rfl (by decide) (Nat.le_of_ble_eq_true rfl) rfl (r_advance hw hB (k := nn) ⟨by omega, by omega⟩ ⟨by omega, by omega⟩ (fun τ e393 => ?_))
      refine go_aload_n (y := (mL_acts L xs)) (pc := 396) dL_acts_396 rfl rfl ?_
      refine go_wget (y := (mL_acts L xs)) (pc := 397) (r := 0) dL_acts_397 fl_L_330 hw (by decide) rfl rfl hz (fun r397 => ?_)
      refine go_iload (y := (mL_acts L xs)) (pc := 400) dL_acts_400 rfl ?_
      refine go_isub (y := (mL_acts L xs)) (pc := 402) dL_acts_402 ?_
      refine go_topI (b := (pms (su M) σ nn).2) (by rw [← iI_sub, he, iI_sub]; congr 1; omega) ?_
      refine go_icmp_ne (y := (mL_acts L xs)) (pc := 403) (tgt := 410) dL_acts_403 (by decide) (by omega) (by omega) (fun h403 => ?_) (fun h403 => ?_)
      · skip
        exact absurd rfl h403
      · skip
        refine go_iconst (y := (mL_acts L xs)) (pc := 406) dL_acts_406 ?_
        refine go_goto (y := (mL_acts L xs)) (pc := 407) (tgt := 411) dL_acts_407 (by decide) ?_
        refine go_ireturn (y := (mL_acts L xs)) (pc := 411) dL_acts_411 rfl ?_
        exact K2 _ ωk τ e393 ⟨z1, hk, z2, fun i hi => by have := z3 i hi; omega, by omega, by omega⟩
    have loop : ∀ (j k : Nat) (ωk : Mem), k + j = nn → own (su M) (pms (su M) σ k).1 ωk → iI (ωk 0 16) = iI (ω 0 16 + (pms (su M) σ k).2) → go 293 9 0 0 (mL_acts L xs) Q X 373 [.ref 0, .ref w, .ref 6000, .int (iI (i0 : Nat)), .int (iI (kd : Nat)), .int (iI (m : Nat)), .int (iI (v : Nat)), .int (iI (ω 0 16)), .int (iI (nn : Nat)), .int (iI (k : Nat))] [] (ow w ωk (put 20 σ M)) := by
      intro j
      induction j with
      | zero =>
        intro k ωk hk ho he
        have e : k = nn := by omega
        subst e
        refine go_iload (y := (mL_acts L xs)) (pc := 373) dL_acts_373 rfl ?_
        refine go_iload (y := (mL_acts L xs)) (pc := 375) dL_acts_375 rfl ?_
        refine go_icmp_ge (y := (mL_acts L xs)) (pc := 377) (tgt := 390) dL_acts_377 (by decide) (by omega) (by omega) (fun h377 => ?_) (fun h377 => ?_)
        · skip
          exact J390 ωk ho he
        · skip
          exact absurd h377 (by omega)
      | succ j ih =>
        intro k ωk hk ho he
        obtain ⟨z1, z2, z3, z4⟩ := pz k (by omega)
        refine go_iload (y := (mL_acts L xs)) (pc := 373) dL_acts_373 rfl ?_
        refine go_iload (y := (mL_acts L xs)) (pc := 375) dL_acts_375 rfl ?_
        refine go_icmp_ge (y := (mL_acts L xs)) (pc := 377) (tgt := 390) dL_acts_377 (by decide) (by omega) (by omega) (fun h377 => ?_) (fun h377 => ?_)
        · skip
          exact absurd h377 (by omega)
        · skip
          refine go_aload_n (y := (mL_acts L xs)) (pc := 380) dL_acts_380 rfl rfl ?_
          refine go_callV0 (y := (mL_acts L xs)) (pc := 381) (y' := mX11_minutes) (kc2 := 0) (ks2 := 0) dL_acts_381 ml_L_259 ok_X11_minutes (ow_sh hw 0 (by decide)) ⟨_, _, rfl⟩ (by omega) trivial (by decide) (Nat.le_of_ble_eq_true rfl) rfl (o_minutes hw hz hS z1 ho z3 (by omega) (fun ω' e381 f381 g381 => ?_))
          refine go_iinc (y := (mL_acts L xs)) (pc := 384) dL_acts_384 rfl (Nat.le_of_ble_eq_true rfl) ?_
          refine go_goto (y := (mL_acts L xs)) (pc := 387) (tgt := 373) dL_acts_387 (by decide) ?_
          refine ih (k + 1) ω' (by omega) e381 ?_
          rw [f381, ← iI_add, he, iI_add]
          show iI (ω 0 16 + (pms (su M) σ k).2 + pme (su M) (pms (su M) σ k).1) = iI (ω 0 16 + ((pms (su M) σ k).2 + pme (su M) (pms (su M) σ k).1))
          rw [Int.add_assoc]
    refine go_istore (y := (mL_acts L xs)) (pc := 368) dL_acts_368 (Nat.le_of_ble_eq_true rfl) ?_
    refine go_iconst (y := (mL_acts L xs)) (pc := 370) dL_acts_370 ?_
    refine go_istore (y := (mL_acts L xs)) (pc := 371) dL_acts_371 (Nat.le_of_ble_eq_true rfl) ?_
    exact loop nn 0 ω (by omega) hR (by show iI (ω 0 16) = iI (ω 0 16 + 0); rw [Int.add_zero])
  -- a motion
  have J58 : ∀ (kd m v : Nat), a < 16 → m < nm → v < 1000 → go 293 9 0 0 (mL_acts L xs) Q X 58 [.ref 0, .ref w, .ref 6000, .int (iI (i0 : Nat)), .int (iI (kd : Nat)), .int (iI (m : Nat)), .int (iI (v : Nat)), .null, .null, .null] [] (ow w ω (put 20 σ M)) := by
    intro kd m v ha16 hm hv
    have a5 (k : Nat) : amk (su M) (am0 σ m a) a ((v % 21 : Nat) : Int) k 5 0 = a := by
      rw [amk_o (by decide)]
      unfold am0
      rw [wr_na (by decide), wr_na (by decide), wr_na (by decide), wr_na (by decide)]
      exact ha
    have J122 : ∀ (ωk : Mem), own (su M) (amk (su M) (am0 σ m a) a ((v % 21 : Nat) : Int) nm) ωk → ωk 6 a = m → (∀ i : Nat, i < nm → ωk 10 (16 * i + a) = ln (amk (su M) (am0 σ m a) a ((v % 21 : Nat) : Int) nm) i a) → go 293 9 0 0 (mL_acts L xs) Q X 122 [.ref 0, .ref w, .ref 6000, .int (iI (i0 : Nat)), .int (iI (kd : Nat)), .int (iI (m : Nat)), .int (iI (v : Nat)), .int (iI (a : Nat)), .int (iI (nm : Nat)), .null] [] (ow w ωk (put 20 σ M)) := by
      intro ωk ho h6 hl
      have eA : amo (su M) σ m ((v % 21 : Nat) : Int) = wr (amk (su M) (am0 σ m a) a ((v % 21 : Nat) : Int) nm) 5 0 (a + 1) := by
        unfold amo
        rw [ha, hnm, Int.toNat_natCast, Int.toNat_natCast]
      have hf := own_amf (a5 nm) ho ha16 (by rw [h6, amk_o (by decide)]; unfold am0; rw [wr_na (by decide), wr_na (by decide), wr_na (by decide), wr_s]) (by
        rw [amk_o (by decide), amk_o (by decide), amk_o (by decide)]
        unfold am0
        exact ⟨by rw [wr_na (by decide), wr_na (by decide), wr_s], by rw [wr_na (by decide), wr_s], by rw [wr_s]⟩) (fun i hi => hl i (by omega))
      rw [← eA] at hf
      have e9k : ωk 0 9 = (a : Int) := ho.1.2.2.2.2.2.2.2.2.2.1.trans (a5 nm)
      refine go_aload_n (y := (mL_acts L xs)) (pc := 122) dL_acts_122 rfl rfl ?_
      refine go_dup (y := (mL_acts L xs)) (pc := 123) dL_acts_123 rfl ?_
      refine go_wget (y := (mL_acts L xs)) (pc := 124) (r := 0) dL_acts_124 fl_L_60 hw (by decide) rfl rfl hz (fun r124 => ?_)
      refine go_top (b := ((a : Nat) : Int)) (e9k) (fun t124 => ?_)
      refine go_iconst (y := (mL_acts L xs)) (pc := 127) dL_acts_127 ?_
      refine go_iadd (y := (mL_acts L xs)) (pc := 128) dL_acts_128 ?_
      refine go_wput (y := (mL_acts L xs)) (pc := 129) (r := 0) dL_acts_129 fp_L_60 hw (by decide) rfl rfl hz (by omega) ?_
      refine go_aload_n (y := (mL_acts L xs)) (pc := 132) dL_acts_132 rfl rfl ?_
      refine go_iload (y := (mL_acts L xs)) (pc := 133) dL_acts_133 rfl ?_
      refine go_iload (y := (mL_acts L xs)) (pc := 135) dL_acts_135 rfl ?_
      refine go_bipush (y := (mL_acts L xs)) (pc := 137) dL_acts_137 (by decide) ?_
      refine go_iremN (y := (mL_acts L xs)) (pc := 139) (a := v) (b := 21) dL_acts_139 (by omega) (by omega) (by omega) ?_
      refine go_callV2 (y := (mL_acts L xs)) (pc := 140) (y' := mX10_propose) (kc2 := 0) (ks2 := 0) dL_acts_140 ml_L_310 ok_X10_propose (show shp 0 = _ from rfl) ⟨_, _, rfl⟩ (by decide) ⟨rfl, rfl⟩ (by decide) (Nat.le_of_ble_eq_true rfl) rfl (r_propose hw hB (m := (m : Nat)) (x := ((v % 21 : Nat) : Int)) (by omega) (by omega) (by unfold rfMo; rw [if_pos ⟨by omega, by omega⟩, if_neg (by omega), if_neg (by omega)]) (fun τ e140 => ?_))
      refine go_top (b := ((a : Nat) : Int)) (ha) (fun t140 => ?_)
      refine go_iload (y := (mL_acts L xs)) (pc := 143) dL_acts_143 rfl ?_
      refine go_icmp_ne (y := (mL_acts L xs)) (pc := 145) (tgt := 152) dL_acts_145 (by decide) (by omega) (by omega) (fun h145 => ?_) (fun h145 => ?_)
      · skip
        exact absurd rfl h145
      · skip
        refine go_iconst (y := (mL_acts L xs)) (pc := 148) dL_acts_148 ?_
        refine go_goto (y := (mL_acts L xs)) (pc := 149) (tgt := 153) dL_acts_149 (by decide) ?_
        refine go_ireturn (y := (mL_acts L xs)) (pc := 153) dL_acts_153 rfl ?_
        exact K2' _ _ τ e140 (gd_amo hS hG (by omega) (by omega) hf)
    have loop : ∀ (j k : Nat) (ωk : Mem), k + j = nm → own (su M) (amk (su M) (am0 σ m a) a ((v % 21 : Nat) : Int) k) ωk → ωk 6 a = m → (∀ i : Nat, i < k → ωk 10 (16 * i + a) = ln (amk (su M) (am0 σ m a) a ((v % 21 : Nat) : Int) k) i a) → go 293 9 0 0 (mL_acts L xs) Q X 76 [.ref 0, .ref w, .ref 6000, .int (iI (i0 : Nat)), .int (iI (kd : Nat)), .int (iI (m : Nat)), .int (iI (v : Nat)), .int (iI (a : Nat)), .int (iI (k : Nat)), .null] [] (ow w ωk (put 20 σ M)) := by
      intro j
      induction j with
      | zero =>
        intro k ωk hk ho h6 hl
        have e : k = nm := by omega
        subst e
        have e8k : ωk 0 8 = (k : Int) := ho.1.2.2.2.2.2.2.2.2.1.trans hnm
        refine go_iload (y := (mL_acts L xs)) (pc := 76) dL_acts_76 rfl ?_
        refine go_aload_n (y := (mL_acts L xs)) (pc := 78) dL_acts_78 rfl rfl ?_
        refine go_wget (y := (mL_acts L xs)) (pc := 79) (r := 0) dL_acts_79 fl_L_50 hw (by decide) rfl rfl hz (fun r79 => ?_)
        refine go_top (b := ((k : Nat) : Int)) (e8k) (fun t79 => ?_)
        refine go_icmp_ge (y := (mL_acts L xs)) (pc := 82) (tgt := 122) dL_acts_82 (by decide) (by omega) (by omega) (fun h82 => ?_) (fun h82 => ?_)
        · skip
          exact J122 ωk ho h6 hl
        · skip
          exact absurd h82 (by omega)
      | succ j ih =>
        intro k ωk hk ho h6 hl
        have e8k : ωk 0 8 = (nm : Int) := ho.1.2.2.2.2.2.2.2.2.1.trans hnm
        have hp := hS.2.2.2.2.2.2.2.2.2.2.2.2.2.2.2.2 k (by omega)
        have e2k : ωk 2 k = su M 3 k := (ho.2.1 k (by omega)).2.1
        have hna : -20 ≤ 5 - ((su M 3 k - ((v % 21 : Nat) : Int)).natAbs : Int) ∧ 5 - ((su M 3 k - ((v % 21 : Nat) : Int)).natAbs : Int) ≤ 20 := by omega
        have hln9 := own_ln (m := k) (q := a) (v := 5 - ((su M 3 k - ((v % 21 : Nat) : Int)).natAbs : Int)) hS (by rw [a5 k]; omega) ho ha16 (by omega)
        have eS : amk (su M) (am0 σ m a) a ((v % 21 : Nat) : Int) (k + 1) = wr (amk (su M) (am0 σ m a) a ((v % 21 : Nat) : Int) k) 10 (a * 12 + k) (5 - ((su M 3 k - ((v % 21 : Nat) : Int)).natAbs : Int)) := by
          show sln _ k a _ = _
          unfold sln
          rw [clp_s hna]
        rw [← eS] at hln9
        refine go_iload (y := (mL_acts L xs)) (pc := 76) dL_acts_76 rfl ?_
        refine go_aload_n (y := (mL_acts L xs)) (pc := 78) dL_acts_78 rfl rfl ?_
        refine go_wget (y := (mL_acts L xs)) (pc := 79) (r := 0) dL_acts_79 fl_L_50 hw (by decide) rfl rfl hz (fun r79 => ?_)
        refine go_top (b := ((nm : Nat) : Int)) (e8k) (fun t79 => ?_)
        refine go_icmp_ge (y := (mL_acts L xs)) (pc := 82) (tgt := 122) dL_acts_82 (by decide) (by omega) (by omega) (fun h82 => ?_) (fun h82 => ?_)
        · skip
          exact absurd h82 (by omega)
        · skip
          refine go_aload_n (y := (mL_acts L xs)) (pc := 85) dL_acts_85 rfl rfl ?_
          refine go_getR (y := (mL_acts L xs)) (pc := 86) dL_acts_86 fl_L_67 (ow_sh hw 0 (by decide)) rfl (by omega) ?_
          refine go_bipush (y := (mL_acts L xs)) (pc := 89) dL_acts_89 (by decide) ?_
          refine go_iload (y := (mL_acts L xs)) (pc := 91) dL_acts_91 rfl ?_
          refine go_imul (y := (mL_acts L xs)) (pc := 93) dL_acts_93 ?_
          refine go_iload (y := (mL_acts L xs)) (pc := 94) dL_acts_94 rfl ?_
          refine go_iadd (y := (mL_acts L xs)) (pc := 96) dL_acts_96 ?_
          refine go_iconst (y := (mL_acts L xs)) (pc := 97) dL_acts_97 ?_
          refine go_aload_n (y := (mL_acts L xs)) (pc := 98) dL_acts_98 rfl rfl ?_
          refine go_getR (y := (mL_acts L xs)) (pc := 99) dL_acts_99 fl_L_304 (ow_sh hw 0 (by decide)) rfl (by omega) ?_
          refine go_iload (y := (mL_acts L xs)) (pc := 102) dL_acts_102 rfl ?_
          refine go_wial (y := (mL_acts L xs)) (pc := 104) (r := 2) (k := k) dL_acts_104 hw (by decide) rfl hz rfl (by omega) (by decide) (fun r104 => ?_)
          refine go_top (b := su M 3 k) (e2k) (fun t104 => ?_)
          refine go_iload (y := (mL_acts L xs)) (pc := 105) dL_acts_105 rfl ?_
          refine go_bipush (y := (mL_acts L xs)) (pc := 107) dL_acts_107 (by decide) ?_
          refine go_iremN (y := (mL_acts L xs)) (pc := 109) (a := v) (b := 21) dL_acts_109 (by omega) (by omega) (by omega) ?_
          refine go_isub (y := (mL_acts L xs)) (pc := 110) dL_acts_110 ?_
          refine go_mabs (y := (mL_acts L xs)) (pc := 111) dL_acts_111 ml_L_307 (by decide) (Nat.le_of_ble_eq_true rfl) (by omega) ?_
          refine go_isub (y := (mL_acts L xs)) (pc := 114) dL_acts_114 ?_
          refine go_wias (y := (mL_acts L xs)) (pc := 115) (r := 10) (k := (16 * k + a)) dL_acts_115 hw (by decide) rfl hz (by omega) (by omega) (by decide) (by omega) ?_
          refine go_iinc (y := (mL_acts L xs)) (pc := 116) dL_acts_116 rfl (Nat.le_of_ble_eq_true rfl) ?_
          refine go_goto (y := (mL_acts L xs)) (pc := 119) (tgt := 76) dL_acts_119 (by decide) ?_
          refine ih (k + 1) _ (by omega) hln9 ((wr_na (by decide)).trans h6) (fun i hi => ?_)
          rw [eS]
          unfold ln
          by_cases g : i = k
          · subst g
            rw [wr_s, wr_s]
          · rw [wr_ni (by omega), wr_ni (by omega)]
            exact hl i (by omega)
    refine go_aload_n (y := (mL_acts L xs)) (pc := 58) dL_acts_58 rfl rfl ?_
    refine go_wget (y := (mL_acts L xs)) (pc := 59) (r := 0) dL_acts_59 fl_L_60 hw (by decide) rfl rfl hz (fun r59 => ?_)
    refine go_top (b := ((a : Nat) : Int)) (e9) (fun t59 => ?_)
    refine go_istore (y := (mL_acts L xs)) (pc := 62) dL_acts_62 (Nat.le_of_ble_eq_true rfl) ?_
    refine go_aload_n (y := (mL_acts L xs)) (pc := 64) dL_acts_64 rfl rfl ?_
    refine go_getR (y := (mL_acts L xs)) (pc := 65) dL_acts_65 fl_L_115 (ow_sh hw 0 (by decide)) rfl (by omega) ?_
    refine go_iload (y := (mL_acts L xs)) (pc := 68) dL_acts_68 rfl ?_
    refine go_iload (y := (mL_acts L xs)) (pc := 70) dL_acts_70 rfl ?_
    refine go_wias (y := (mL_acts L xs)) (pc := 72) (r := 6) (k := a) dL_acts_72 hw (by decide) rfl hz rfl (by omega) (by decide) (by omega) ?_
    refine go_iconst (y := (mL_acts L xs)) (pc := 73) dL_acts_73 ?_
    refine go_istore (y := (mL_acts L xs)) (pc := 74) dL_acts_74 (Nat.le_of_ble_eq_true rfl) ?_
    exact loop nm 0 _ (by omega) (own_am0 ha hR) (wr_s _ _ _ _) (fun i hi => absurd hi (by omega))
  have J154 : ∀ (kd m v : Nat), kd < 22 → m < nm → v < 1000 → go 293 9 0 0 (mL_acts L xs) Q X 154 [.ref 0, .ref w, .ref 6000, .int (iI (i0 : Nat)), .int (iI (kd : Nat)), .int (iI (m : Nat)), .int (iI (v : Nat)), .null, .null, .null] [] (ow w ω (put 20 σ M)) := by
    intro kd m v hkd hm hv
    have hsm := (hR.2.1 m (by omega)).2.2.2.1
    have hpm := (hR.2.1 m (by omega)).2.2.1
    have hmb := hC.2.1 m (by omega)
    have hrk := hC.1.2.2.2.2.1
    have hrk2 := hC.1.2.2.2.2.2.1
    have e10 : ω 0 10 = σ 0 6 := hR.1.2.2.2.2.2.2.2.2.2.2.1
    have J175 : ∀ (b : Int), (b = 0 ∨ b = 1) → go 293 9 0 0 (mL_acts L xs) Q X 175 [.ref 0, .ref w, .ref 6000, .int (iI (i0 : Nat)), .int (iI (kd : Nat)), .int (iI (m : Nat)), .int (iI (v : Nat)), .null, .null, .null] [.int (iI b), .ref w, .ref 0] (ow w ω (put 20 σ M)) := by
      intro b hb
      refine go_iload (y := (mL_acts L xs)) (pc := 175) dL_acts_175 rfl ?_
      refine go_iload (y := (mL_acts L xs)) (pc := 177) dL_acts_177 rfl ?_
      refine go_callS5 (y := (mL_acts L xs)) (pc := 179) (y' := mL_speaks) (kc2 := 0) (ks2 := 0) dL_acts_179 ml_L_313 ok_L_speaks ⟨rfl, rfl, rfl, rfl, rfl⟩ (by decide) (Nat.le_of_ble_eq_true rfl) rfl (l_speaks hw hz hB hG hb (m := m) (v := v) (by omega) (by omega) ?_ (fun σ' ω' τ e179 g179 => ?_))
      · skip
        refine go_ireturn (y := (mL_acts L xs)) (pc := 182) dL_acts_182 rfl ?_
        exact K
      · skip
        refine go_ireturn (y := (mL_acts L xs)) (pc := 182) dL_acts_182 rfl ?_
        exact K2' σ' ω' τ e179 g179
    have J211 : ∀ (b : Int), (b = 0 ∨ b = 1) → go 293 9 0 0 (mL_acts L xs) Q X 211 [.ref 0, .ref w, .ref 6000, .int (iI (i0 : Nat)), .int (iI (kd : Nat)), .int (iI (m : Nat)), .int (iI (v : Nat)), .null, .null, .null] [.int (iI b), .ref w, .ref 0] (ow w ω (put 20 σ M)) := by
      intro b hb
      refine go_iload (y := (mL_acts L xs)) (pc := 211) dL_acts_211 rfl ?_
      refine go_callS4 (y := (mL_acts L xs)) (pc := 213) (y' := mL_decides) (kc2 := 0) (ks2 := 0) dL_acts_213 ml_L_317 ok_L_decides ⟨rfl, rfl, rfl, rfl⟩ (by decide) (Nat.le_of_ble_eq_true rfl) rfl (l_decides hw hz hB hG hb (v := v) (by omega) ?_ (fun σ' ω' τ e213 g213 => ?_))
      · skip
        refine go_ireturn (y := (mL_acts L xs)) (pc := 216) dL_acts_216 rfl ?_
        exact K
      · skip
        refine go_ireturn (y := (mL_acts L xs)) (pc := 216) dL_acts_216 rfl ?_
        exact K2' σ' ω' τ e213 g213
    have J246 : go 293 9 0 0 (mL_acts L xs) Q X 246 [.ref 0, .ref w, .ref 6000, .int (iI (i0 : Nat)), .int (iI (kd : Nat)), .int (iI (m : Nat)), .int (iI (v : Nat)), .null, .null, .null] [] (ow w ω (put 20 σ M)) := by
      refine go_iconst (y := (mL_acts L xs)) (pc := 246) dL_acts_246 ?_
      refine go_ireturn (y := (mL_acts L xs)) (pc := 247) dL_acts_247 rfl ?_
      exact K
    have J248 : σ 3 m ≠ 5 → 2 ≤ σ 2 m → go 293 9 0 0 (mL_acts L xs) Q X 248 [.ref 0, .ref w, .ref 6000, .int (iI (i0 : Nat)), .int (iI (kd : Nat)), .int (iI (m : Nat)), .int (iI (v : Nat)), .null, .null, .null] [] (ow w ω (put 20 σ M)) := by
      intro g3 g2
      refine go_aload_n (y := (mL_acts L xs)) (pc := 248) dL_acts_248 rfl rfl ?_
      refine go_getR (y := (mL_acts L xs)) (pc := 249) dL_acts_249 fl_L_81 (ow_sh hw 0 (by decide)) rfl (by omega) ?_
      refine go_iload (y := (mL_acts L xs)) (pc := 252) dL_acts_252 rfl ?_
      refine go_iconst (y := (mL_acts L xs)) (pc := 254) dL_acts_254 ?_
      refine go_wias (y := (mL_acts L xs)) (pc := 255) (r := 4) (k := m) dL_acts_255 hw (by decide) rfl hz rfl (by omega) (by decide) (by omega) ?_
      refine go_aload_n (y := (mL_acts L xs)) (pc := 256) dL_acts_256 rfl rfl ?_
      refine go_getR (y := (mL_acts L xs)) (pc := 257) dL_acts_257 fl_L_76 (ow_sh hw 0 (by decide)) rfl (by omega) ?_
      refine go_iload (y := (mL_acts L xs)) (pc := 260) dL_acts_260 rfl ?_
      refine go_dup2 (y := (mL_acts L xs)) (pc := 262) dL_acts_262 rfl rfl ?_
      refine go_wial (y := (mL_acts L xs)) (pc := 263) (r := 3) (k := m) dL_acts_263 hw (by decide) rfl hz rfl (by omega) (by decide) (fun r263 => ?_)
      refine go_top (b := σ 2 m) ((by rw [wr_na (by decide)]; exact hpm)) (fun t263 => ?_)
      refine go_iconst (y := (mL_acts L xs)) (pc := 264) dL_acts_264 ?_
      refine go_isub (y := (mL_acts L xs)) (pc := 265) dL_acts_265 ?_
      refine go_wias (y := (mL_acts L xs)) (pc := 266) (r := 3) (k := m) dL_acts_266 hw (by decide) rfl hz rfl (by omega) (by decide) (by omega) ?_
      refine go_aload_n (y := (mL_acts L xs)) (pc := 267) dL_acts_267 rfl rfl ?_
      refine go_dup (y := (mL_acts L xs)) (pc := 268) dL_acts_268 rfl ?_
      refine go_wget (y := (mL_acts L xs)) (pc := 269) (r := 0) dL_acts_269 fl_L_321 hw (by decide) rfl rfl hz (fun r269 => ?_)
      refine go_iconst (y := (mL_acts L xs)) (pc := 272) dL_acts_272 ?_
      refine go_iadd (y := (mL_acts L xs)) (pc := 273) dL_acts_273 ?_
      refine go_wputW (y := (mL_acts L xs)) (pc := 274) (r := 0) dL_acts_274 fp_L_321 hw (by decide) rfl rfl hz  ?_
      refine go_aload_n (y := (mL_acts L xs)) (pc := 277) dL_acts_277 rfl rfl ?_
      refine go_iload (y := (mL_acts L xs)) (pc := 278) dL_acts_278 rfl ?_
      refine go_callV1 (y := (mL_acts L xs)) (pc := 280) (y' := mX10_sharpen) (kc2 := 0) (ks2 := 0) dL_acts_280 ml_L_324 ok_X10_sharpen (show shp 0 = _ from rfl) ⟨_, _, rfl⟩ (by decide) rfl (by decide) (Nat.le_of_ble_eq_true rfl) rfl (r_sharpen hw hB (m := m) (by omega) (by unfold rfSh; rw [if_pos ⟨by omega, by omega⟩, Int.toNat_natCast, if_neg (by omega)]) (fun τ e280 => ?_))
      refine go_aload_n (y := (mL_acts L xs)) (pc := 283) dL_acts_283 rfl rfl ?_
      refine go_getR (y := (mL_acts L xs)) (pc := 284) dL_acts_284 fl_L_76 (ow_sh hw 0 (by decide)) rfl (by omega) ?_
      refine go_iload (y := (mL_acts L xs)) (pc := 287) dL_acts_287 rfl ?_
      refine go_wial (y := (mL_acts L xs)) (pc := 289) (r := 3) (k := m) dL_acts_289 hw (by decide) rfl hz rfl (by omega) (by decide) (fun r289 => ?_)
      refine go_top (b := σ 2 m - 2) ((by rw [wr_na (by decide), wr_s])) (fun t289 => ?_)
      refine go_icmp_ne (y := (mL_acts L xs)) (pc := 290) (tgt := 297) dL_acts_290 (by decide) (by omega) (by omega) (fun h290 => ?_) (fun h290 => ?_)
      · skip
        exact absurd rfl h290
      · skip
        refine go_iconst (y := (mL_acts L xs)) (pc := 293) dL_acts_293 ?_
        refine go_goto (y := (mL_acts L xs)) (pc := 294) (tgt := 298) dL_acts_294 (by decide) ?_
        refine go_ireturn (y := (mL_acts L xs)) (pc := 298) dL_acts_298 rfl ?_
        exact K2' _ _ τ e280 (gd_shp hS hG (by omega) g2)
    have J306 : go 293 9 0 0 (mL_acts L xs) Q X 306 [.ref 0, .ref w, .ref 6000, .int (iI (i0 : Nat)), .int (iI (kd : Nat)), .int (iI (m : Nat)), .int (iI (v : Nat)), .null, .null, .null] [] (ow w ω (put 20 σ M)) := by
      refine go_aload_n (y := (mL_acts L xs)) (pc := 306) dL_acts_306 rfl rfl ?_
      refine go_wget (y := (mL_acts L xs)) (pc := 307) (r := 0) dL_acts_307 fl_L_227 hw (by decide) rfl rfl hz (fun r307 => ?_)
      refine go_top (b := σ 0 6) (e10) (fun t307 => ?_)
      refine go_istore (y := (mL_acts L xs)) (pc := 310) dL_acts_310 (Nat.le_of_ble_eq_true rfl) ?_
      refine go_aload_n (y := (mL_acts L xs)) (pc := 312) dL_acts_312 rfl rfl ?_
      refine go_iload (y := (mL_acts L xs)) (pc := 313) dL_acts_313 rfl ?_
      refine go_iconst (y := (mL_acts L xs)) (pc := 315) dL_acts_315 ?_
      refine go_iremN (y := (mL_acts L xs)) (pc := 316) (a := v) (b := 4) dL_acts_316 (by omega) (by omega) (by omega) ?_
      refine go_wput (y := (mL_acts L xs)) (pc := 317) (r := 0) dL_acts_317 fp_L_227 hw (by decide) rfl rfl hz (by omega) ?_
      refine go_aload_n (y := (mL_acts L xs)) (pc := 320) dL_acts_320 rfl rfl ?_
      refine go_iload (y := (mL_acts L xs)) (pc := 321) dL_acts_321 rfl ?_
      refine go_iconst (y := (mL_acts L xs)) (pc := 323) dL_acts_323 ?_
      refine go_iremN (y := (mL_acts L xs)) (pc := 324) (a := v) (b := 4) dL_acts_324 (by omega) (by omega) (by omega) ?_
      refine go_callV1 (y := (mL_acts L xs)) (pc := 325) (y' := mX10_setRanking) (kc2 := 0) (ks2 := 0) dL_acts_325 ml_L_327 ok_X10_setRanking (show shp 0 = _ from rfl) ⟨_, _, rfl⟩ (by decide) rfl (by decide) (Nat.le_of_ble_eq_true rfl) rfl (r_setRanking hw hB (v := ((v % 4 : Nat) : Int)) ⟨by omega, by omega⟩ (fun τ e325 => ?_))
      refine go_iload (y := (mL_acts L xs)) (pc := 328) dL_acts_328 rfl ?_
      refine go_icmp_ne (y := (mL_acts L xs)) (pc := 330) (tgt := 337) dL_acts_330 (by decide) (by omega) (by omega) (fun h330 => ?_) (fun h330 => ?_)
      · skip
        exact absurd rfl h330
      · skip
        refine go_iconst (y := (mL_acts L xs)) (pc := 333) dL_acts_333 ?_
        refine go_goto (y := (mL_acts L xs)) (pc := 334) (tgt := 338) dL_acts_334 (by decide) ?_
        refine go_ireturn (y := (mL_acts L xs)) (pc := 338) dL_acts_338 rfl ?_
        exact K2' _ _ τ e325 (gd_rk hG (v := ((v % 4 : Nat) : Int)) ⟨by omega, by omega⟩)
    refine go_iload (y := (mL_acts L xs)) (pc := 154) dL_acts_154 rfl ?_
    refine go_bipush (y := (mL_acts L xs)) (pc := 156) dL_acts_156 (by decide) ?_
    refine go_icmp_ge (y := (mL_acts L xs)) (pc := 158) (tgt := 183) dL_acts_158 (by decide) (by omega) (by omega) (fun h158 => ?_) (fun h158 => ?_)
    · skip
      refine go_iload (y := (mL_acts L xs)) (pc := 183) dL_acts_183 rfl ?_
      refine go_bipush (y := (mL_acts L xs)) (pc := 185) dL_acts_185 (by decide) ?_
      refine go_icmp_ge (y := (mL_acts L xs)) (pc := 187) (tgt := 217) dL_acts_187 (by decide) (by omega) (by omega) (fun h187 => ?_) (fun h187 => ?_)
      · skip
        refine go_iload (y := (mL_acts L xs)) (pc := 217) dL_acts_217 rfl ?_
        refine go_bipush (y := (mL_acts L xs)) (pc := 219) dL_acts_219 (by decide) ?_
        refine go_icmp_ne (y := (mL_acts L xs)) (pc := 221) (tgt := 299) dL_acts_221 (by decide) (by omega) (by omega) (fun h221 => ?_) (fun h221 => ?_)
        · skip
          refine go_iload (y := (mL_acts L xs)) (pc := 299) dL_acts_299 rfl ?_
          refine go_bipush (y := (mL_acts L xs)) (pc := 301) dL_acts_301 (by decide) ?_
          refine go_icmp_ne (y := (mL_acts L xs)) (pc := 303) (tgt := 339) dL_acts_303 (by decide) (by omega) (by omega) (fun h303 => ?_) (fun h303 => ?_)
          · skip
            refine go_aload_n (y := (mL_acts L xs)) (pc := 339) dL_acts_339 rfl rfl ?_
            refine go_wget (y := (mL_acts L xs)) (pc := 340) (r := 0) dL_acts_340 fl_L_330 hw (by decide) rfl rfl hz (fun r340 => ?_)
            refine go_istore (y := (mL_acts L xs)) (pc := 343) dL_acts_343 (Nat.le_of_ble_eq_true rfl) ?_
            refine go_iload (y := (mL_acts L xs)) (pc := 345) dL_acts_345 rfl ?_
            refine go_bipush (y := (mL_acts L xs)) (pc := 347) dL_acts_347 (by decide) ?_
            refine go_icmp_ne (y := (mL_acts L xs)) (pc := 349) (tgt := 362) dL_acts_349 (by decide) (by omega) (by omega) (fun h349 => ?_) (fun h349 => ?_)
            · skip
              refine go_iconst (y := (mL_acts L xs)) (pc := 362) dL_acts_362 ?_
              refine go_iload (y := (mL_acts L xs)) (pc := 363) dL_acts_363 rfl ?_
              refine go_iconst (y := (mL_acts L xs)) (pc := 365) dL_acts_365 ?_
              refine go_iremN (y := (mL_acts L xs)) (pc := 366) (a := v) (b := 5) dL_acts_366 (by omega) (by omega) (by omega) ?_
              refine go_iadd (y := (mL_acts L xs)) (pc := 367) dL_acts_367 ?_
              exact J368 kd m v (1 + v % 5) (by omega) (by omega)
            · skip
              refine go_iconst (y := (mL_acts L xs)) (pc := 352) dL_acts_352 ?_
              refine go_iload (y := (mL_acts L xs)) (pc := 353) dL_acts_353 rfl ?_
              refine go_bipush (y := (mL_acts L xs)) (pc := 355) dL_acts_355 (by decide) ?_
              refine go_iremN (y := (mL_acts L xs)) (pc := 357) (a := v) (b := 60) dL_acts_357 (by omega) (by omega) (by omega) ?_
              refine go_iadd (y := (mL_acts L xs)) (pc := 358) dL_acts_358 ?_
              refine go_goto (y := (mL_acts L xs)) (pc := 359) (tgt := 368) dL_acts_359 (by decide) ?_
              exact J368 kd m v (1 + v % 60) (by omega) (by omega)
          · skip
            exact J306
        · skip
          refine go_aload_n (y := (mL_acts L xs)) (pc := 224) dL_acts_224 rfl rfl ?_
          refine go_getR (y := (mL_acts L xs)) (pc := 225) dL_acts_225 fl_L_81 (ow_sh hw 0 (by decide)) rfl (by omega) ?_
          refine go_iload (y := (mL_acts L xs)) (pc := 228) dL_acts_228 rfl ?_
          refine go_wial (y := (mL_acts L xs)) (pc := 230) (r := 4) (k := m) dL_acts_230 hw (by decide) rfl hz rfl (by omega) (by decide) (fun r230 => ?_)
          refine go_top (b := σ 3 m) (hsm) (fun t230 => ?_)
          refine go_iconst (y := (mL_acts L xs)) (pc := 231) dL_acts_231 ?_
          refine go_icmp_eq (y := (mL_acts L xs)) (pc := 232) (tgt := 246) dL_acts_232 (by decide) (by omega) (by omega) (fun h232 => ?_) (fun h232 => ?_)
          · skip
            exact J246
          · skip
            refine go_aload_n (y := (mL_acts L xs)) (pc := 235) dL_acts_235 rfl rfl ?_
            refine go_getR (y := (mL_acts L xs)) (pc := 236) dL_acts_236 fl_L_76 (ow_sh hw 0 (by decide)) rfl (by omega) ?_
            refine go_iload (y := (mL_acts L xs)) (pc := 239) dL_acts_239 rfl ?_
            refine go_wial (y := (mL_acts L xs)) (pc := 241) (r := 3) (k := m) dL_acts_241 hw (by decide) rfl hz rfl (by omega) (by decide) (fun r241 => ?_)
            refine go_top (b := σ 2 m) (hpm) (fun t241 => ?_)
            refine go_iconst (y := (mL_acts L xs)) (pc := 242) dL_acts_242 ?_
            refine go_icmp_ge (y := (mL_acts L xs)) (pc := 243) (tgt := 248) dL_acts_243 (by decide) (by omega) (by omega) (fun h243 => ?_) (fun h243 => ?_)
            · skip
              exact J248 (by omega) (by omega)
            · skip
              exact J246
      · skip
        refine go_aload_n (y := (mL_acts L xs)) (pc := 190) dL_acts_190 rfl rfl ?_
        refine go_aload_n (y := (mL_acts L xs)) (pc := 191) dL_acts_191 rfl rfl ?_
        refine go_iload (y := (mL_acts L xs)) (pc := 192) dL_acts_192 rfl ?_
        refine go_bipush (y := (mL_acts L xs)) (pc := 194) dL_acts_194 (by decide) ?_
        refine go_icmp_lt (y := (mL_acts L xs)) (pc := 196) (tgt := 206) dL_acts_196 (by decide) (by omega) (by omega) (fun h196 => ?_) (fun h196 => ?_)
        · skip
          refine go_iconst (y := (mL_acts L xs)) (pc := 206) dL_acts_206 ?_
          refine go_goto (y := (mL_acts L xs)) (pc := 207) (tgt := 211) dL_acts_207 (by decide) ?_
          exact J211 1 (by omega)
        · skip
          refine go_iload (y := (mL_acts L xs)) (pc := 199) dL_acts_199 rfl ?_
          refine go_iconst (y := (mL_acts L xs)) (pc := 201) dL_acts_201 ?_
          refine go_iremN (y := (mL_acts L xs)) (pc := 202) (a := v) (b := 3) dL_acts_202 (by omega) (by omega) (by omega) ?_
          refine go_if_le (y := (mL_acts L xs)) (pc := 203) (tgt := 210) dL_acts_203 (by decide) (by omega) (fun h203 => ?_) (fun h203 => ?_)
          · skip
            refine go_iconst (y := (mL_acts L xs)) (pc := 210) dL_acts_210 ?_
            exact J211 0 (by omega)
          · skip
            refine go_iconst (y := (mL_acts L xs)) (pc := 206) dL_acts_206 ?_
            refine go_goto (y := (mL_acts L xs)) (pc := 207) (tgt := 211) dL_acts_207 (by decide) ?_
            exact J211 1 (by omega)
    · skip
      refine go_aload_n (y := (mL_acts L xs)) (pc := 161) dL_acts_161 rfl rfl ?_
      refine go_aload_n (y := (mL_acts L xs)) (pc := 162) dL_acts_162 rfl rfl ?_
      refine go_iload (y := (mL_acts L xs)) (pc := 163) dL_acts_163 rfl ?_
      refine go_bipush (y := (mL_acts L xs)) (pc := 165) dL_acts_165 (by decide) ?_
      refine go_icmp_ge (y := (mL_acts L xs)) (pc := 167) (tgt := 174) dL_acts_167 (by decide) (by omega) (by omega) (fun h167 => ?_) (fun h167 => ?_)
      · skip
        refine go_iconst (y := (mL_acts L xs)) (pc := 174) dL_acts_174 ?_
        exact J175 0 (by omega)
      · skip
        refine go_iconst (y := (mL_acts L xs)) (pc := 170) dL_acts_170 ?_
        refine go_goto (y := (mL_acts L xs)) (pc := 171) (tgt := 175) dL_acts_171 (by decide) ?_
        exact J175 1 (by omega)
  have J47 : ∀ (kd m v : Nat), m < nm → v < 1000 → go 293 9 0 0 (mL_acts L xs) Q X 47 [.ref 0, .ref w, .ref 6000, .int (iI (i0 : Nat)), .int (iI (kd : Nat)), .int (iI (m : Nat)), .int (iI (v : Nat)), .null, .null, .null] [] (ow w ω (put 20 σ M)) := by
    intro kd m v hm hv
    refine go_aload_n (y := (mL_acts L xs)) (pc := 47) dL_acts_47 rfl rfl ?_
    refine go_wget (y := (mL_acts L xs)) (pc := 48) (r := 0) dL_acts_48 fl_L_60 hw (by decide) rfl rfl hz (fun r48 => ?_)
    refine go_top (b := ((a : Nat) : Int)) (e9) (fun t48 => ?_)
    refine go_bipush (y := (mL_acts L xs)) (pc := 51) dL_acts_51 (by decide) ?_
    refine go_icmp_ne (y := (mL_acts L xs)) (pc := 53) (tgt := 58) dL_acts_53 (by decide) (by omega) (by omega) (fun h53 => ?_) (fun h53 => ?_)
    · skip
      exact J58 kd m v (by omega) hm hv
    · skip
      refine go_iconst (y := (mL_acts L xs)) (pc := 56) dL_acts_56 ?_
      refine go_ireturn (y := (mL_acts L xs)) (pc := 57) dL_acts_57 rfl ?_
      exact K
  refine go_aload_n (y := (mL_acts L xs)) (pc := 0) dL_acts_0 rfl rfl ?_
  refine go_iload_n (y := (mL_acts L xs)) (pc := 1) dL_acts_1 rfl rfl ?_
  refine go_bipush (y := (mL_acts L xs)) (pc := 2) dL_acts_2 (by decide) ?_
  refine go_callSs3 (y := (mL_acts L xs)) (pc := 4) (y' := (mL_pick L xs)) (kc2 := 0) (ks2 := 0) dL_acts_4 ml_L_300 rfl ok_L_pick ⟨rfl, rfl, rfl⟩ ⟨Nat.le_of_ble_eq_true rfl, by decide, by decide, by decide, by decide⟩ (Nat.le_of_ble_eq_true rfl) rfl (l_pick hL (k := i0) (by omega) (n := 22) (by omega) (fun v4 b4 => ?_))
  refine go_istore (y := (mL_acts L xs)) (pc := 7) dL_acts_7 (Nat.le_of_ble_eq_true rfl) ?_
  refine go_aload_n (y := (mL_acts L xs)) (pc := 9) dL_acts_9 rfl rfl ?_
  refine go_iload_n (y := (mL_acts L xs)) (pc := 10) dL_acts_10 rfl rfl ?_
  refine go_iconst (y := (mL_acts L xs)) (pc := 11) dL_acts_11 ?_
  refine go_iadd (y := (mL_acts L xs)) (pc := 12) dL_acts_12 ?_
  refine go_aload_n (y := (mL_acts L xs)) (pc := 13) dL_acts_13 rfl rfl ?_
  refine go_wget (y := (mL_acts L xs)) (pc := 14) (r := 0) dL_acts_14 fl_L_50 hw (by decide) rfl rfl hz (fun r14 => ?_)
  refine go_top (b := ((nm : Nat) : Int)) (e8) (fun t14 => ?_)
  refine go_callSs3 (y := (mL_acts L xs)) (pc := 17) (y' := (mL_pick L xs)) (kc2 := 0) (ks2 := 0) dL_acts_17 ml_L_300 rfl ok_L_pick ⟨rfl, rfl, rfl⟩ ⟨Nat.le_of_ble_eq_true rfl, by decide, by decide, by decide, by decide⟩ (Nat.le_of_ble_eq_true rfl) rfl (l_pick hL (k := (i0 + 1)) (by omega) (n := nm) (by omega) (fun v17 b17 => ?_))
  refine go_istore (y := (mL_acts L xs)) (pc := 20) dL_acts_20 (Nat.le_of_ble_eq_true rfl) ?_
  refine go_aload_n (y := (mL_acts L xs)) (pc := 22) dL_acts_22 rfl rfl ?_
  refine go_iload_n (y := (mL_acts L xs)) (pc := 23) dL_acts_23 rfl rfl ?_
  refine go_iconst (y := (mL_acts L xs)) (pc := 24) dL_acts_24 ?_
  refine go_iadd (y := (mL_acts L xs)) (pc := 25) dL_acts_25 ?_
  refine go_sipush (y := (mL_acts L xs)) (pc := 26) dL_acts_26 (by decide) ?_
  refine go_callSs3 (y := (mL_acts L xs)) (pc := 29) (y' := (mL_pick L xs)) (kc2 := 0) (ks2 := 0) dL_acts_29 ml_L_300 rfl ok_L_pick ⟨rfl, rfl, rfl⟩ ⟨Nat.le_of_ble_eq_true rfl, by decide, by decide, by decide, by decide⟩ (Nat.le_of_ble_eq_true rfl) rfl (l_pick hL (k := (i0 + 2)) (by omega) (n := 1000) (by omega) (fun v29 b29 => ?_))
  refine go_istore (y := (mL_acts L xs)) (pc := 32) dL_acts_32 (Nat.le_of_ble_eq_true rfl) ?_
  refine go_iload (y := (mL_acts L xs)) (pc := 34) dL_acts_34 rfl ?_
  refine go_iconst (y := (mL_acts L xs)) (pc := 36) dL_acts_36 ?_
  refine go_icmp_lt (y := (mL_acts L xs)) (pc := 37) (tgt := 47) dL_acts_37 (by decide) (by omega) (by omega) (fun h37 => ?_) (fun h37 => ?_)
  · skip
    exact J47 v4 v17 v29 b17 b29
  · skip
    refine go_aload_n (y := (mL_acts L xs)) (pc := 40) dL_acts_40 rfl rfl ?_
    refine go_wget (y := (mL_acts L xs)) (pc := 41) (r := 0) dL_acts_41 fl_L_60 hw (by decide) rfl rfl hz (fun r41 => ?_)
    refine go_top (b := ((a : Nat) : Int)) (e9) (fun t41 => ?_)
    refine go_if_ne (y := (mL_acts L xs)) (pc := 44) (tgt := 154) dL_acts_44 (by decide) (by omega) (fun h44 => ?_) (fun h44 => ?_)
    · skip
      exact J154 v4 v17 v29 b4 b17 b29
    · skip
      exact J47 v4 v17 v29 b17 b29
