/-! THE CLASS: what throws for want of an element -/
set_option maxRecDepth 8000 in
set_option maxHeartbeats 4000000 in
theorem g_speechMotion {σ μ : Mem} {m : Int} (hm : rng m) (hS : wfS (su μ)) (hC : wfC (su μ) σ) {Q : Option Value → Mem → Prop} {X : String → Mem → Prop} (K : ∀ k : Nat, m = k → (k : Int) < su μ 0 0 → σ 16 k ≠ -1 → Q (some (.int (iI (σ 17 k)))) (put 20 σ μ)) (K2 : ¬ (0 ≤ m ∧ m < su μ 0 0) → X "java/lang/IndexOutOfBoundsException" (put 20 σ μ)) (K3 : ∀ k : Nat, m = k → (k : Int) < su μ 0 0 → σ 16 k = -1 → X "java/util/NoSuchElementException" (put 20 σ μ)) : mt 276 7 2 12 mX10_speechMotion [.ref 0, .int (iI m)] Q X (put 20 σ μ) := by
  show go 276 7 2 12 mX10_speechMotion Q X 0 [.ref 0, .int (iI m)] [] _
  have c4 : su μ 0 0 ≤ 4 := hS.2.1
  by_cases g : 0 ≤ m ∧ m < su μ 0 0
  · obtain ⟨k, rfl⟩ := Int.eq_ofNat_of_zero_le g.1
    have g2 := g.2
    refine go_aload_n (y := mX10_speechMotion) (pc := 0) dX10_speechMotion_0 rfl rfl ?_
    refine go_iload_n (y := mX10_speechMotion) (pc := 1) dX10_speechMotion_1 rfl rfl ?_
    refine go_callV1 (y := mX10_speechMotion) (pc := 2) (y' := mX10_requireChair) (kc2 := 1) (ks2 := 6) dX10_speechMotion_2 ml_X10_256 ok_X10_requireChair (show shp 0 = _ from rfl) ⟨_, _, rfl⟩ (by decide) rfl (by decide) (Nat.le_of_ble_eq_true rfl) rfl (g_requireChair (by omega) (fun _ => ?_) (fun h9 => absurd g h9))
    refine go_aload_n (y := mX10_speechMotion) (pc := 5) dX10_speechMotion_5 rfl rfl ?_
    refine go_getR (y := mX10_speechMotion) (pc := 6) dX10_speechMotion_6 fl_X10_47 rfl rfl (by decide) ?_
    refine go_getR (y := mX10_speechMotion) (pc := 9) dX10_speechMotion_9 fl_X10_200 (ch_sh h20 0 (by decide)) rfl (ch_z (r := 0) h20 (by decide)) ?_
    refine go_iload_n (y := mX10_speechMotion) (pc := 12) dX10_speechMotion_12 rfl rfl ?_
    refine go_callV1 (y := mX10_speechMotion) (pc := 13) (y' := mX0_isFree) (kc2 := 1) (ks2 := 6) dX10_speechMotion_13 ml_X10_262 ok_X0_isFree (ch_sh h20 15 (by decide)) ⟨_, _, rfl⟩ (ch_z (r := 15) h20 (by decide)) rfl (by decide) (Nat.le_of_ble_eq_true rfl) rfl (c_isFree h20 (h := k) (by omega) (fun v13 e13 b13 => ?_))
    refine go_if_eq (y := mX10_speechMotion) (pc := 16) (tgt := 30) dX10_speechMotion_16 (by decide) (by omega) (fun h16 => ?_) (fun h16 => ?_)
    · skip
      refine go_aload_n (y := mX10_speechMotion) (pc := 30) dX10_speechMotion_30 rfl rfl ?_
      refine go_getR (y := mX10_speechMotion) (pc := 31) dX10_speechMotion_31 fl_X10_47 rfl rfl (by decide) ?_
      refine go_getR (y := mX10_speechMotion) (pc := 34) dX10_speechMotion_34 fl_X10_200 (ch_sh h20 0 (by decide)) rfl (ch_z (r := 0) h20 (by decide)) ?_
      refine go_getR (y := mX10_speechMotion) (pc := 37) dX10_speechMotion_37 fl_X10_271 (ch_sh h20 15 (by decide)) rfl (ch_z (r := 15) h20 (by decide)) ?_
      refine go_iload_n (y := mX10_speechMotion) (pc := 40) dX10_speechMotion_40 rfl rfl ?_
      refine go_cial (y := mX10_speechMotion) (pc := 41) (r := 17) (k := k) dX10_speechMotion_41 h20 (by decide) rfl (by decide) rfl (by omega) (by decide) (fun r41 => ?_)
      refine go_ireturn (y := mX10_speechMotion) (pc := 42) dX10_speechMotion_42 rfl ?_
      exact K k rfl (by omega) (bI_0 e13 h16)
    · skip
      refine go_throwN (y := mX10_speechMotion) (pc := 19) (i := 23) rfl rfl dX10_speechMotion_19 dX10_speechMotion_22 dX10_speechMotion_23 dX10_speechMotion_26 dX10_speechMotion_29 (by decide) (Nat.le_of_ble_eq_true rfl) rfl ?_
      exact K3 k rfl (by omega) (bI_1 e13 h16)
  · skip
    refine go_aload_n (y := mX10_speechMotion) (pc := 0) dX10_speechMotion_0 rfl rfl ?_
    refine go_iload_n (y := mX10_speechMotion) (pc := 1) dX10_speechMotion_1 rfl rfl ?_
    refine go_callV1 (y := mX10_speechMotion) (pc := 2) (y' := mX10_requireChair) (kc2 := 1) (ks2 := 6) dX10_speechMotion_2 ml_X10_256 ok_X10_requireChair (show shp 0 = _ from rfl) ⟨_, _, rfl⟩ (by decide) rfl (by decide) (Nat.le_of_ble_eq_true rfl) rfl (g_requireChair (by omega) (fun h9 => absurd h9 g) (fun _ => K2 g))
