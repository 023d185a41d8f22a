/-! THE CLASS: what throws for want of an element -/
set_option maxRecDepth 8000 in
set_option maxHeartbeats 4000000 in
theorem g_speechMotion {σ μ : Mem} {m : Int} (hm : rng m) (hS : wfS (su μ)) (hC : wfC (su μ) σ) {Q : Option Value → Mem → Prop} {X : String → Mem → Prop} (K : ∀ k : Nat, m = k → (k : Int) < su μ 0 0 → σ 16 k ≠ -1 → Q (some (.int (iI (σ 17 k)))) (put 20 σ μ)) (K2 : ¬ (0 ≤ m ∧ m < su μ 0 0) → X "java/lang/IndexOutOfBoundsException" (put 20 σ μ)) (K3 : ∀ k : Nat, m = k → (k : Int) < su μ 0 0 → σ 16 k = -1 → X "java/util/NoSuchElementException" (put 20 σ μ)) : mt 276 7 2 12 mX10_speechMotion [.ref 0, .int (iI m)] Q X (put 20 σ μ) := by
  show go 276 7 2 12 mX10_speechMotion Q X 0 [.ref 0, .int (iI m)] [] _
  have c4 : su μ 0 0 ≤ 4 := hS.2.1
  by_cases g : 0 ≤ m ∧ m < su μ 0 0
  · obtain ⟨k, rfl⟩ := Int.eq_ofNat_of_zero_le g.1
    have g2 := g.2
    refine go_aload_n (y := mX10_speechMotion) (pc := 0) dX10_speechMotion_0 rfl rfl ?_
    refine go_iload_n (y := mX10_speechMotion) (pc := 1) dX10_speechMotion_1 rfl rfl ?_
    refine go_callV1 (y := mX10_speechMotion) (pc := 2) (y' := mX10_requireChair) (kc2 := 1) (ks2 := 6) dX10_speechMotion_2 ml_X10_256 ok_X10_requireChair (show shp 0 = _ from rfl) ⟨_, _, rfl⟩ (by decide) rfl (by decide) (Nat.le_of_ble_eq_true rfl) rfl (g_requireChair (by omega) (fun _ => ?_) (fun h9 => absurd g h9))
    refine go_aload_n (y := mX10_speechMotion) (pc := 5) dX10_speechMotion_5 rfl rfl ?_
    refine go_getR (y := mX10_speechMotion) (pc := 6) dX10_speechMotion_6 fl_X10_47 rfl rfl (by decide) ?_
    refine go_getR (y := mX10_speechMotion) (pc := 9) dX10_speechMotion_9 fl_X10_200 (ch_sh h20 0 (by decide)) rfl (ch_z (r := 0) h20 (by decide)) ?_
    refine go_iload_n (y := mX10_speechMotion) (pc := 12) dX10_speechMotion_12 rfl rfl ?_
    refine go_callV1 (y := mX10_speechMotion) (pc := 13) (y' := mX0_isFree) (kc2 := 1) (ks2 := 6) dX10_speechMotion_13 ml_X10_262 ok_X0_isFree (ch_sh h20 15 (by decide)) ⟨_, _, rfl⟩ (ch_z (r := 15) h20 (by decide)) rfl (by decide) (Nat.le_of_ble_eq_true rfl) rfl (c_isFree h20 (h := k) (by omega) (fun v13 e13 b13 => ?_))
    refine go_if_eq (y := mX10_speechMotion) (pc := 16) (tgt := 30) dX10_speechMotion_16 (by decide) (by omega) (fun h16 => ?_) (fun h16 => ?_)
    · skip
      refine go_aload_n (y := mX10_speechMotion) (pc := 30) dX10_speechMotion_30 rfl rfl ?_
      refine go_getR (y := mX10_speechMotion) (pc := 31) dX10_speechMotion_31 fl_X10_47 rfl rfl (by decide) ?_
      refine go_getR (y := mX10_speechMotion) (pc := 34) dX10_speechMotion_34 fl_X10_200 (ch_sh h20 0 (by decide)) rfl (ch_z (r := 0) h20 (by decide)) ?_
      refine go_getR (y := mX10_speechMotion) (pc := 37) dX10_speechMotion_37 fl_X10_271 (ch_sh h20 15 (by decide)) rfl (ch_z (r := 15) h20 (by decide)) ?_
      refine go_iload_n (y := mX10_speechMotion) (pc := 40) dX10_speechMotion_40 rfl rfl ?_
      refine go_cial (y := mX10_speechMotion) (pc := 41) (r := 17) (k := k) dX10_speechMotion_41 h20 (by decide) rfl (by decide) rfl (by omega) (by decide) (fun r41 => ?_)
      refine go_ireturn (y := mX10_speechMotion) (pc := 42) dX10_speechMotion_42 rfl ?_
      exact K k rfl (by omega) (bI_0 e13 h16)
    · skip
      refine go_throwN (y := mX10_speechMotion) (pc := 19) (i := 23) rfl rfl dX10_speechMotion_19 dX10_speechMotion_22 dX10_speechMotion_23 dX10_speechMotion_26 dX10_speechMotion_29 (by decide) (Nat.le_of_ble_eq_true rfl) rfl ?_
      exact K3 k rfl (by omega) (bI_1 e13 h16)
  · skip
    refine go_aload_n (y := mX10_speechMotion) (pc := 0) dX10_speechMotion_0 rfl rfl ?_
    refine go_iload_n (y := mX10_speechMotion) (pc := 1) dX10_speechMotion_1 rfl rfl ?_
    refine go_callV1 (y := mX10_speechMotion) (pc := 2) (y' := mX10_requireChair) (kc2 := 1) (ks2 := 6) dX10_speechMotion_2 ml_X10_256 ok_X10_requireChair (show shp 0 = _ from rfl) ⟨_, _, rfl⟩ (by decide) rfl (by decide) (Nat.le_of_ble_eq_true rfl) rfl (g_requireChair (by omega) (fun h9 => absurd h9 g) (fun _ => K2 g))
set_option maxRecDepth 8000 in
set_option maxHeartbeats 4000000 in
theorem g_restore {σ μ : Mem} {m : Int} (hm : rng m) (h01 : ∀ k : Nat, k < 2 → μ 275 k = 0 ∨ μ 275 k = 1) {Q : Option Value → Mem → Prop} {X : String → Mem → Prop} (K : ∀ k : Nat, m = k → k < 2 → μ 275 k = 1 → ∀ τ, eqC τ (vw (233 + 21 * k) μ) → Q (some (.int (iI (τ 0 5)))) (put 20 τ (wr μ 62 2 0))) (K2 : ¬ (0 ≤ m ∧ m < 2) → X "java/lang/IndexOutOfBoundsException" (put 20 σ μ)) (K3 : ∀ k : Nat, m = k → k < 2 → μ 275 k = 0 → X "java/util/NoSuchElementException" (put 20 σ μ)) : mt 276 7 2 12 mX10_restore [.ref 0, .int (iI m)] Q X (put 20 σ μ) := by
  show go 276 7 2 12 mX10_restore Q X 0 [.ref 0, .int (iI m)] [] _
  by_cases g : 0 ≤ m ∧ m < 2
  · skip
    obtain ⟨k, rfl⟩ := Int.eq_ofNat_of_zero_le g.1
    have hk2 : k < 2 := by omega
    obtain ⟨c, ec⟩ : ∃ c, c = 233 + 21 * k := ⟨_, rfl⟩
    have hc : is_ch c := ec ▸ h233 hk2
    have K' := K k rfl hk2
    rw [← ec] at K'
    have hk01 := h01 k hk2
    refine go_iload_n (y := mX10_restore) (pc := 0) dX10_restore_0 rfl rfl ?_
    refine go_callS1 (y := mX10_restore) (pc := 1) (y' := mX10_requireSlot) (kc2 := 1) (ks2 := 6) dX10_restore_1 ml_X10_403 ok_X10_requireSlot rfl (by decide) (Nat.le_of_ble_eq_true rfl) rfl (g_requireSlot (by omega) (fun _ => ?_) (fun h9 => absurd g h9))
    refine go_aload_n (y := mX10_restore) (pc := 4) dX10_restore_4 rfl rfl ?_
    refine go_getR (y := mX10_restore) (pc := 5) dX10_restore_5 fl_X10_65 rfl rfl (by decide) ?_
    refine go_iload_n (y := mX10_restore) (pc := 8) dX10_restore_8 rfl rfl ?_
    refine go_bzal (y := mX10_restore) (pc := 9) (k := k) dX10_restore_9 rfl (by decide) (by decide) rfl (by omega) (by decide) (fun r9 => ?_)
    refine go_if_ne (y := mX10_restore) (pc := 10) (tgt := 24) dX10_restore_10 (by decide) (by omega) (fun h10 => ?_) (fun h10 => ?_)
    · skip
      refine go_aload_n (y := mX10_restore) (pc := 24) dX10_restore_24 rfl rfl ?_
      refine go_getR (y := mX10_restore) (pc := 25) dX10_restore_25 fl_X10_47 rfl rfl (by decide) ?_
      refine go_aload_n (y := mX10_restore) (pc := 28) dX10_restore_28 rfl rfl ?_
      refine go_getR (y := mX10_restore) (pc := 29) dX10_restore_29 fl_X10_61 rfl rfl (by decide) ?_
      refine go_iload_n (y := mX10_restore) (pc := 32) dX10_restore_32 rfl rfl ?_
      refine go_aaload (y := mX10_restore) (pc := 33) (k := k) (q := c) dX10_restore_33 rfl (by decide) (by omega) (by omega) (by decide) ((k232 hk2).trans (congrArg some ec.symm)) ?_
      refine go_callV1 (y := mX10_restore) (pc := 34) (y' := mX1_copyFrom) (kc2 := 0) (ks2 := 0) dX10_restore_34 ml_X10_312 ok_X1_copyFrom (ch_sh h20 0 (by decide)) ⟨_, _, rfl⟩ (ch_z (r := 0) h20 (by decide)) rfl (by decide) (Nat.le_of_ble_eq_true rfl) rfl (c_copyFrom h20 hc (by omega) ?_)
      refine go_aload_n (y := mX10_restore) (pc := 37) dX10_restore_37 rfl rfl ?_
      refine go_getR (y := mX10_restore) (pc := 38) dX10_restore_38 fl_X10_57 rfl rfl (by decide) ?_
      refine go_callV0 (y := mX10_restore) (pc := 41) (y' := mX2_forget) (kc2 := 0) (ks2 := 0) dX10_restore_41 ml_X10_128 ok_X2_forget (show shp 62 = _ from rfl) ⟨_, _, rfl⟩ (by decide) trivial (by decide) (Nat.le_of_ble_eq_true rfl) rfl (g_forget ?_)
      refine go_aload_n (y := mX10_restore) (pc := 44) dX10_restore_44 rfl rfl ?_
      refine go_getR (y := mX10_restore) (pc := 45) dX10_restore_45 fl_X10_47 rfl rfl (by decide) ?_
      refine go_cget (y := mX10_restore) (pc := 48) (r := 0) dX10_restore_48 fl_X10_245 h20 (by decide) rfl rfl (by decide) (fun r48 => ?_)
      refine go_ireturn (y := mX10_restore) (pc := 51) dX10_restore_51 rfl ?_
      exact K' (by omega) _ (eq_cpC _ _)
    · skip
      refine go_throwN (y := mX10_restore) (pc := 13) (i := 30) rfl rfl dX10_restore_13 dX10_restore_16 dX10_restore_17 dX10_restore_20 dX10_restore_23 (by decide) (Nat.le_of_ble_eq_true rfl) rfl ?_
      exact K3 k rfl hk2 h10
  · skip
    refine go_iload_n (y := mX10_restore) (pc := 0) dX10_restore_0 rfl rfl ?_
    refine go_callS1 (y := mX10_restore) (pc := 1) (y' := mX10_requireSlot) (kc2 := 1) (ks2 := 6) dX10_restore_1 ml_X10_403 ok_X10_requireSlot rfl (by decide) (Nat.le_of_ble_eq_true rfl) rfl (g_requireSlot (by omega) (fun h9 => absurd h9 g) (fun _ => K2 g))
