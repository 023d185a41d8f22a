/-! THE CLASS, nothing refused -/
section Quiet
variable {σ μ : Mem}
set_option maxRecDepth 8000 in
set_option maxHeartbeats 4000000 in
theorem h_requireMember {m : Int} (hm : 0 ≤ m ∧ m < su μ 0 7) (hb : su μ 0 7 ≤ 2147483647) {Q : Option Value → Mem → Prop} {X : String → Mem → Prop} (K : Q none (put 20 σ μ)) : mt 276 6 0 0 mX10_requireMember [.ref 0, .int (iI m)] Q X (put 20 σ μ) := by
  show go 276 6 0 0 mX10_requireMember Q X 0 [.ref 0, .int (iI m)] [] _
  refine go_aload_n (y := mX10_requireMember) (pc := 0) dX10_requireMember_0 rfl rfl ?_
  refine go_getR (y := mX10_requireMember) (pc := 1) dX10_requireMember_1 fl_X10_35 rfl rfl (by decide) ?_
  refine go_iload_n (y := mX10_requireMember) (pc := 4) dX10_requireMember_4 rfl rfl ?_
  refine go_callV1 (y := mX10_requireMember) (pc := 5) (y' := mX7_hasMember) (kc2 := 0) (ks2 := 0) dX10_requireMember_5 ml_X10_408 ok_X7_hasMember (show shp 10 = _ from rfl) ⟨_, _, rfl⟩ (by decide) rfl (by decide) (Nat.le_of_ble_eq_true rfl) rfl (s_hasMember h20 (by omega) (fun v5 e5 b5 => ?_))
  refine go_if_ne (y := mX10_requireMember) (pc := 8) (tgt := 22) dX10_requireMember_8 (by decide) (by omega) (fun h8 => ?_) (fun h8 => ?_)
  · skip
    refine go_return (y := mX10_requireMember) (pc := 22) dX10_requireMember_22 rfl ?_
    exact K
  · skip
    exact absurd hm (bI_0 e5 h8)
set_option maxRecDepth 8000 in
set_option maxHeartbeats 4000000 in
theorem h_requireMotion {m : Int} (hm : 0 ≤ m ∧ m < σ 5 0) (hb : σ 5 0 ≤ 2147483647) {Q : Option Value → Mem → Prop} {X : String → Mem → Prop} (K : Q none (put 20 σ μ)) : mt 276 6 0 0 mX10_requireMotion [.ref 0, .int (iI m)] Q X (put 20 σ μ) := by
  show go 276 6 0 0 mX10_requireMotion Q X 0 [.ref 0, .int (iI m)] [] _
  refine go_aload_n (y := mX10_requireMotion) (pc := 0) dX10_requireMotion_0 rfl rfl ?_
  refine go_getR (y := mX10_requireMotion) (pc := 1) dX10_requireMotion_1 fl_X10_47 rfl rfl (by decide) ?_
  refine go_getR (y := mX10_requireMotion) (pc := 4) dX10_requireMotion_4 fl_X10_191 (ch_sh h20 0 (by decide)) rfl (ch_z (r := 0) h20 (by decide)) ?_
  refine go_iload_n (y := mX10_requireMotion) (pc := 7) dX10_requireMotion_7 rfl rfl ?_
  refine go_callV1 (y := mX10_requireMotion) (pc := 8) (y' := mX4_has) (kc2 := 0) (ks2 := 0) dX10_requireMotion_8 ml_X10_416 ok_X4_has (ch_sh h20 5 (by decide)) ⟨_, _, rfl⟩ (ch_z (r := 5) h20 (by decide)) rfl (by decide) (Nat.le_of_ble_eq_true rfl) rfl (c_has h20 (by omega) (fun v8 e8 b8 => ?_))
  refine go_if_ne (y := mX10_requireMotion) (pc := 11) (tgt := 25) dX10_requireMotion_11 (by decide) (by omega) (fun h11 => ?_) (fun h11 => ?_)
  · skip
    refine go_return (y := mX10_requireMotion) (pc := 25) dX10_requireMotion_25 rfl ?_
    exact K
  · skip
    exact absurd hm (bI_0 e8 h11)
set_option maxRecDepth 8000 in
set_option maxHeartbeats 4000000 in
theorem h_requireChair {m : Int} (hm : 0 ≤ m ∧ m < su μ 0 0) (hb : su μ 0 0 ≤ 2147483647) {Q : Option Value → Mem → Prop} {X : String → Mem → Prop} (K : Q none (put 20 σ μ)) : mt 276 6 0 0 mX10_requireChair [.ref 0, .int (iI m)] Q X (put 20 σ μ) := by
  show go 276 6 0 0 mX10_requireChair Q X 0 [.ref 0, .int (iI m)] [] _
  refine go_aload_n (y := mX10_requireChair) (pc := 0) dX10_requireChair_0 rfl rfl ?_
  refine go_getR (y := mX10_requireChair) (pc := 1) dX10_requireChair_1 fl_X10_35 rfl rfl (by decide) ?_
  refine go_iload_n (y := mX10_requireChair) (pc := 4) dX10_requireChair_4 rfl rfl ?_
  refine go_callV1 (y := mX10_requireChair) (pc := 5) (y' := mX7_hasChair) (kc2 := 0) (ks2 := 0) dX10_requireChair_5 ml_X10_421 ok_X7_hasChair (show shp 10 = _ from rfl) ⟨_, _, rfl⟩ (by decide) rfl (by decide) (Nat.le_of_ble_eq_true rfl) rfl (s_hasChair h20 (by omega) (fun v5 e5 b5 => ?_))
  refine go_if_ne (y := mX10_requireChair) (pc := 8) (tgt := 22) dX10_requireChair_8 (by decide) (by omega) (fun h8 => ?_) (fun h8 => ?_)
  · skip
    refine go_return (y := mX10_requireChair) (pc := 22) dX10_requireChair_22 rfl ?_
    exact K
  · skip
    exact absurd hm (bI_0 e5 h8)
set_option maxRecDepth 8000 in
set_option maxHeartbeats 4000000 in
theorem h_tir {m : Int} (hm : m = 0) {Q : Option Value → Mem → Prop} {X : String → Mem → Prop} (K : Q none (put 20 σ μ)) : mt 276 6 0 0 mX10_throwIfRefused [.int (iI m)] Q X (put 20 σ μ) := by
  show go 276 6 0 0 mX10_throwIfRefused Q X 0 [.int (iI m)] [] _
  subst hm
  refine go_iload_n (y := mX10_throwIfRefused) (pc := 0) dX10_throwIfRefused_0 rfl rfl ?_
  refine go_tbOut (y := mX10_throwIfRefused) (pc := 1) (tgt := 61) dX10_throwIfRefused_1 (by omega) (by omega) (by decide) ?_
  refine go_return (y := mX10_throwIfRefused) (pc := 61) dX10_throwIfRefused_61 rfl ?_
  exact K
set_option maxRecDepth 8000 in
set_option maxHeartbeats 4000000 in
theorem h_weight {m : Int} (hm : rng m) (hS : wfS (su μ)) (hC : wfC (su μ) σ) (g0 : 0 ≤ m ∧ m < su μ 0 7) {Q : Option Value → Mem → Prop} {X : String → Mem → Prop} (K : ∀ k : Nat, m = k → (k : Int) < su μ 0 7 → Q (some (.int (iI (su μ 2 k)))) (put 20 σ μ)) : mt 276 7 0 0 mX10_weight [.ref 0, .int (iI m)] Q X (put 20 σ μ) := by
  show go 276 7 0 0 mX10_weight Q X 0 [.ref 0, .int (iI m)] [] _
  have n1 : 1 ≤ su μ 0 7 := hS.2.2.2.2.2.2.2.2.2.2.2.2.2.2.1
  have n2 : su μ 0 7 ≤ 12 := hS.2.2.2.2.2.2.2.2.2.2.2.2.2.2.2.1
  have c4 : su μ 0 0 ≤ 4 := hS.2.1
  have h5 := hC.1.1
  have h16 := hC.1.2.1
  have h11 := hC.1.2.2.1
  have h12 : σ 11 0 ≤ 12 := by have := hC.1.2.2.2.1; omega
  have hS' := hS
  have hC' := hC
  by_cases g : 0 ≤ m ∧ m < su μ 0 7
  · obtain ⟨k, rfl⟩ := Int.eq_ofNat_of_zero_le g.1
    have g2 := g.2
    refine go_aload_n (y := mX10_weight) (pc := 0) dX10_weight_0 rfl rfl ?_
    refine go_iload_n (y := mX10_weight) (pc := 1) dX10_weight_1 rfl rfl ?_
    refine go_callV1 (y := mX10_weight) (pc := 2) (y' := mX10_requireMember) (kc2 := 0) (ks2 := 0) dX10_weight_2 ml_X10_166 ok_X10_requireMember (show shp 0 = _ from rfl) ⟨_, _, rfl⟩ (by decide) rfl (by decide) (Nat.le_of_ble_eq_true rfl) rfl (h_requireMember g (by omega) ?_)
    refine go_aload_n (y := mX10_weight) (pc := 5) dX10_weight_5 rfl rfl ?_
    refine go_getR (y := mX10_weight) (pc := 6) dX10_weight_6 fl_X10_35 rfl rfl (by decide) ?_
    refine go_getR (y := mX10_weight) (pc := 9) dX10_weight_9 fl_X10_169 rfl rfl (by decide) ?_
    refine go_iload_n (y := mX10_weight) (pc := 12) dX10_weight_12 rfl rfl ?_
    refine go_sial (y := mX10_weight) (pc := 13) (r := 2) (k := k) dX10_weight_13 h20 (by decide) rfl (by decide) rfl (by omega) (by decide) (fun r13 => ?_)
    refine go_ireturn (y := mX10_weight) (pc := 14) dX10_weight_14 rfl ?_
    exact K k rfl (by omega)
  · exact absurd g0 g
set_option maxRecDepth 8000 in
set_option maxHeartbeats 4000000 in
theorem h_purse {m : Int} (hm : rng m) (hS : wfS (su μ)) (hC : wfC (su μ) σ) (g0 : 0 ≤ m ∧ m < su μ 0 7) {Q : Option Value → Mem → Prop} {X : String → Mem → Prop} (K : ∀ k : Nat, m = k → (k : Int) < su μ 0 7 → Q (some (.int (iI (σ 2 k)))) (put 20 σ μ)) : mt 276 7 0 0 mX10_purse [.ref 0, .int (iI m)] Q X (put 20 σ μ) := by
  show go 276 7 0 0 mX10_purse Q X 0 [.ref 0, .int (iI m)] [] _
  have n1 : 1 ≤ su μ 0 7 := hS.2.2.2.2.2.2.2.2.2.2.2.2.2.2.1
  have n2 : su μ 0 7 ≤ 12 := hS.2.2.2.2.2.2.2.2.2.2.2.2.2.2.2.1
  have c4 : su μ 0 0 ≤ 4 := hS.2.1
  have h5 := hC.1.1
  have h16 := hC.1.2.1
  have h11 := hC.1.2.2.1
  have h12 : σ 11 0 ≤ 12 := by have := hC.1.2.2.2.1; omega
  have hS' := hS
  have hC' := hC
  by_cases g : 0 ≤ m ∧ m < su μ 0 7
  · obtain ⟨k, rfl⟩ := Int.eq_ofNat_of_zero_le g.1
    have g2 := g.2
    refine go_aload_n (y := mX10_purse) (pc := 0) dX10_purse_0 rfl rfl ?_
    refine go_iload_n (y := mX10_purse) (pc := 1) dX10_purse_1 rfl rfl ?_
    refine go_callV1 (y := mX10_purse) (pc := 2) (y' := mX10_requireMember) (kc2 := 0) (ks2 := 0) dX10_purse_2 ml_X10_166 ok_X10_requireMember (show shp 0 = _ from rfl) ⟨_, _, rfl⟩ (by decide) rfl (by decide) (Nat.le_of_ble_eq_true rfl) rfl (h_requireMember g (by omega) ?_)
    refine go_aload_n (y := mX10_purse) (pc := 5) dX10_purse_5 rfl rfl ?_
    refine go_getR (y := mX10_purse) (pc := 6) dX10_purse_6 fl_X10_47 rfl rfl (by decide) ?_
    refine go_getR (y := mX10_purse) (pc := 9) dX10_purse_9 fl_X10_173 (ch_sh h20 0 (by decide)) rfl (ch_z (r := 0) h20 (by decide)) ?_
    refine go_getR (y := mX10_purse) (pc := 12) dX10_purse_12 fl_X10_177 (ch_sh h20 1 (by decide)) rfl (ch_z (r := 1) h20 (by decide)) ?_
    refine go_iload_n (y := mX10_purse) (pc := 15) dX10_purse_15 rfl rfl ?_
    refine go_cial (y := mX10_purse) (pc := 16) (r := 2) (k := k) dX10_purse_16 h20 (by decide) rfl (by decide) rfl (by omega) (by decide) (fun r16 => ?_)
    refine go_ireturn (y := mX10_purse) (pc := 17) dX10_purse_17 rfl ?_
    exact K k rfl (by omega)
  · exact absurd g0 g
set_option maxRecDepth 8000 in
set_option maxHeartbeats 4000000 in
theorem h_sharpness {m : Int} (hm : rng m) (hS : wfS (su μ)) (hC : wfC (su μ) σ) (g0 : 0 ≤ m ∧ m < su μ 0 7) {Q : Option Value → Mem → Prop} {X : String → Mem → Prop} (K : ∀ k : Nat, m = k → (k : Int) < su μ 0 7 → Q (some (.int (iI (σ 3 k)))) (put 20 σ μ)) : mt 276 7 0 0 mX10_sharpness [.ref 0, .int (iI m)] Q X (put 20 σ μ) := by
  show go 276 7 0 0 mX10_sharpness Q X 0 [.ref 0, .int (iI m)] [] _
  have n1 : 1 ≤ su μ 0 7 := hS.2.2.2.2.2.2.2.2.2.2.2.2.2.2.1
  have n2 : su μ 0 7 ≤ 12 := hS.2.2.2.2.2.2.2.2.2.2.2.2.2.2.2.1
  have c4 : su μ 0 0 ≤ 4 := hS.2.1
  have h5 := hC.1.1
  have h16 := hC.1.2.1
  have h11 := hC.1.2.2.1
  have h12 : σ 11 0 ≤ 12 := by have := hC.1.2.2.2.1; omega
  have hS' := hS
  have hC' := hC
  by_cases g : 0 ≤ m ∧ m < su μ 0 7
  · obtain ⟨k, rfl⟩ := Int.eq_ofNat_of_zero_le g.1
    have g2 := g.2
    refine go_aload_n (y := mX10_sharpness) (pc := 0) dX10_sharpness_0 rfl rfl ?_
    refine go_iload_n (y := mX10_sharpness) (pc := 1) dX10_sharpness_1 rfl rfl ?_
    refine go_callV1 (y := mX10_sharpness) (pc := 2) (y' := mX10_requireMember) (kc2 := 0) (ks2 := 0) dX10_sharpness_2 ml_X10_166 ok_X10_requireMember (show shp 0 = _ from rfl) ⟨_, _, rfl⟩ (by decide) rfl (by decide) (Nat.le_of_ble_eq_true rfl) rfl (h_requireMember g (by omega) ?_)
    refine go_aload_n (y := mX10_sharpness) (pc := 5) dX10_sharpness_5 rfl rfl ?_
    refine go_getR (y := mX10_sharpness) (pc := 6) dX10_sharpness_6 fl_X10_47 rfl rfl (by decide) ?_
    refine go_getR (y := mX10_sharpness) (pc := 9) dX10_sharpness_9 fl_X10_173 (ch_sh h20 0 (by decide)) rfl (ch_z (r := 0) h20 (by decide)) ?_
    refine go_getR (y := mX10_sharpness) (pc := 12) dX10_sharpness_12 fl_X10_182 (ch_sh h20 1 (by decide)) rfl (ch_z (r := 1) h20 (by decide)) ?_
    refine go_iload_n (y := mX10_sharpness) (pc := 15) dX10_sharpness_15 rfl rfl ?_
    refine go_cial (y := mX10_sharpness) (pc := 16) (r := 3) (k := k) dX10_sharpness_16 h20 (by decide) rfl (by decide) rfl (by omega) (by decide) (fun r16 => ?_)
    refine go_ireturn (y := mX10_sharpness) (pc := 17) dX10_sharpness_17 rfl ?_
    exact K k rfl (by omega)
  · exact absurd g0 g
set_option maxRecDepth 8000 in
set_option maxHeartbeats 4000000 in
theorem h_speechesOf {m : Int} (hm : rng m) (hS : wfS (su μ)) (hC : wfC (su μ) σ) (g0 : 0 ≤ m ∧ m < su μ 0 7) {Q : Option Value → Mem → Prop} {X : String → Mem → Prop} (K : ∀ k : Nat, m = k → (k : Int) < su μ 0 7 → Q (some (.int (iI (σ 4 k)))) (put 20 σ μ)) : mt 276 7 0 0 mX10_speechesOf [.ref 0, .int (iI m)] Q X (put 20 σ μ) := by
  show go 276 7 0 0 mX10_speechesOf Q X 0 [.ref 0, .int (iI m)] [] _
  have n1 : 1 ≤ su μ 0 7 := hS.2.2.2.2.2.2.2.2.2.2.2.2.2.2.1
  have n2 : su μ 0 7 ≤ 12 := hS.2.2.2.2.2.2.2.2.2.2.2.2.2.2.2.1
  have c4 : su μ 0 0 ≤ 4 := hS.2.1
  have h5 := hC.1.1
  have h16 := hC.1.2.1
  have h11 := hC.1.2.2.1
  have h12 : σ 11 0 ≤ 12 := by have := hC.1.2.2.2.1; omega
  have hS' := hS
  have hC' := hC
  by_cases g : 0 ≤ m ∧ m < su μ 0 7
  · obtain ⟨k, rfl⟩ := Int.eq_ofNat_of_zero_le g.1
    have g2 := g.2
    refine go_aload_n (y := mX10_speechesOf) (pc := 0) dX10_speechesOf_0 rfl rfl ?_
    refine go_iload_n (y := mX10_speechesOf) (pc := 1) dX10_speechesOf_1 rfl rfl ?_
    refine go_callV1 (y := mX10_speechesOf) (pc := 2) (y' := mX10_requireMember) (kc2 := 0) (ks2 := 0) dX10_speechesOf_2 ml_X10_166 ok_X10_requireMember (show shp 0 = _ from rfl) ⟨_, _, rfl⟩ (by decide) rfl (by decide) (Nat.le_of_ble_eq_true rfl) rfl (h_requireMember g (by omega) ?_)
    refine go_aload_n (y := mX10_speechesOf) (pc := 5) dX10_speechesOf_5 rfl rfl ?_
    refine go_getR (y := mX10_speechesOf) (pc := 6) dX10_speechesOf_6 fl_X10_47 rfl rfl (by decide) ?_
    refine go_getR (y := mX10_speechesOf) (pc := 9) dX10_speechesOf_9 fl_X10_173 (ch_sh h20 0 (by decide)) rfl (ch_z (r := 0) h20 (by decide)) ?_
    refine go_getR (y := mX10_speechesOf) (pc := 12) dX10_speechesOf_12 fl_X10_185 (ch_sh h20 1 (by decide)) rfl (ch_z (r := 1) h20 (by decide)) ?_
    refine go_iload_n (y := mX10_speechesOf) (pc := 15) dX10_speechesOf_15 rfl rfl ?_
    refine go_cial (y := mX10_speechesOf) (pc := 16) (r := 4) (k := k) dX10_speechesOf_16 h20 (by decide) rfl (by decide) rfl (by omega) (by decide) (fun r16 => ?_)
    refine go_ireturn (y := mX10_speechesOf) (pc := 17) dX10_speechesOf_17 rfl ?_
    exact K k rfl (by omega)
  · exact absurd g0 g
set_option maxRecDepth 8000 in
set_option maxHeartbeats 4000000 in
theorem h_chairOf {m : Int} (hm : rng m) (hS : wfS (su μ)) (hC : wfC (su μ) σ) (g0 : 0 ≤ m ∧ m < su μ 0 7) {Q : Option Value → Mem → Prop} {X : String → Mem → Prop} (K : ∀ k : Nat, m = k → (k : Int) < su μ 0 7 → Q (some (.int (iI (tkn σ k)))) (put 20 σ μ)) : mt 276 7 0 0 mX10_chairOf [.ref 0, .int (iI m)] Q X (put 20 σ μ) := by
  show go 276 7 0 0 mX10_chairOf Q X 0 [.ref 0, .int (iI m)] [] _
  have n1 : 1 ≤ su μ 0 7 := hS.2.2.2.2.2.2.2.2.2.2.2.2.2.2.1
  have n2 : su μ 0 7 ≤ 12 := hS.2.2.2.2.2.2.2.2.2.2.2.2.2.2.2.1
  have c4 : su μ 0 0 ≤ 4 := hS.2.1
  have h5 := hC.1.1
  have h16 := hC.1.2.1
  have h11 := hC.1.2.2.1
  have h12 : σ 11 0 ≤ 12 := by have := hC.1.2.2.2.1; omega
  have hS' := hS
  have hC' := hC
  by_cases g : 0 ≤ m ∧ m < su μ 0 7
  · obtain ⟨k, rfl⟩ := Int.eq_ofNat_of_zero_le g.1
    have g2 := g.2
    refine go_aload_n (y := mX10_chairOf) (pc := 0) dX10_chairOf_0 rfl rfl ?_
    refine go_iload_n (y := mX10_chairOf) (pc := 1) dX10_chairOf_1 rfl rfl ?_
    refine go_callV1 (y := mX10_chairOf) (pc := 2) (y' := mX10_requireMember) (kc2 := 0) (ks2 := 0) dX10_chairOf_2 ml_X10_166 ok_X10_requireMember (show shp 0 = _ from rfl) ⟨_, _, rfl⟩ (by decide) rfl (by decide) (Nat.le_of_ble_eq_true rfl) rfl (h_requireMember g (by omega) ?_)
    refine go_aload_n (y := mX10_chairOf) (pc := 5) dX10_chairOf_5 rfl rfl ?_
    refine go_getR (y := mX10_chairOf) (pc := 6) dX10_chairOf_6 fl_X10_47 rfl rfl (by decide) ?_
    refine go_getR (y := mX10_chairOf) (pc := 9) dX10_chairOf_9 fl_X10_200 (ch_sh h20 0 (by decide)) rfl (ch_z (r := 0) h20 (by decide)) ?_
    refine go_iload_n (y := mX10_chairOf) (pc := 12) dX10_chairOf_12 rfl rfl ?_
    refine go_callV1 (y := mX10_chairOf) (pc := 13) (y' := mX0_takenBy) (kc2 := 0) (ks2 := 0) dX10_chairOf_13 ml_X10_204 ok_X0_takenBy (ch_sh h20 15 (by decide)) ⟨_, _, rfl⟩ (ch_z (r := 15) h20 (by decide)) rfl (by decide) (Nat.le_of_ble_eq_true rfl) rfl (c_takenBy h20 (by omega) (fun v13 e13 b13 => ?_))
    refine go_ireturn (y := mX10_chairOf) (pc := 16) dX10_chairOf_16 rfl ?_
    rw [e13]
    exact K k rfl (by omega)
  · exact absurd g0 g
set_option maxRecDepth 8000 in
set_option maxHeartbeats 4000000 in
theorem h_placeInList {m : Int} (hm : rng m) (hS : wfS (su μ)) (hC : wfC (su μ) σ) (g0 : 0 ≤ m ∧ m < su μ 0 7) {Q : Option Value → Mem → Prop} {X : String → Mem → Prop} (K : ∀ k : Nat, m = k → (k : Int) < su μ 0 7 → Q (some (.int (iI (plc σ k)))) (put 20 σ μ)) : mt 276 7 0 0 mX10_placeInList [.ref 0, .int (iI m)] Q X (put 20 σ μ) := by
  show go 276 7 0 0 mX10_placeInList Q X 0 [.ref 0, .int (iI m)] [] _
  have n1 : 1 ≤ su μ 0 7 := hS.2.2.2.2.2.2.2.2.2.2.2.2.2.2.1
  have n2 : su μ 0 7 ≤ 12 := hS.2.2.2.2.2.2.2.2.2.2.2.2.2.2.2.1
  have c4 : su μ 0 0 ≤ 4 := hS.2.1
  have h5 := hC.1.1
  have h16 := hC.1.2.1
  have h11 := hC.1.2.2.1
  have h12 : σ 11 0 ≤ 12 := by have := hC.1.2.2.2.1; omega
  have hS' := hS
  have hC' := hC
  by_cases g : 0 ≤ m ∧ m < su μ 0 7
  · obtain ⟨k, rfl⟩ := Int.eq_ofNat_of_zero_le g.1
    have g2 := g.2
    refine go_aload_n (y := mX10_placeInList) (pc := 0) dX10_placeInList_0 rfl rfl ?_
    refine go_iload_n (y := mX10_placeInList) (pc := 1) dX10_placeInList_1 rfl rfl ?_
    refine go_callV1 (y := mX10_placeInList) (pc := 2) (y' := mX10_requireMember) (kc2 := 0) (ks2 := 0) dX10_placeInList_2 ml_X10_166 ok_X10_requireMember (show shp 0 = _ from rfl) ⟨_, _, rfl⟩ (by decide) rfl (by decide) (Nat.le_of_ble_eq_true rfl) rfl (h_requireMember g (by omega) ?_)
    refine go_aload_n (y := mX10_placeInList) (pc := 5) dX10_placeInList_5 rfl rfl ?_
    refine go_getR (y := mX10_placeInList) (pc := 6) dX10_placeInList_6 fl_X10_47 rfl rfl (by decide) ?_
    refine go_getR (y := mX10_placeInList) (pc := 9) dX10_placeInList_9 fl_X10_209 (ch_sh h20 0 (by decide)) rfl (ch_z (r := 0) h20 (by decide)) ?_
    refine go_iload_n (y := mX10_placeInList) (pc := 12) dX10_placeInList_12 rfl rfl ?_
    refine go_callV1 (y := mX10_placeInList) (pc := 13) (y' := mX5_placeOf) (kc2 := 0) (ks2 := 0) dX10_placeInList_13 ml_X10_213 ok_X5_placeOf (ch_sh h20 11 (by decide)) ⟨_, _, rfl⟩ (ch_z (r := 11) h20 (by decide)) rfl (by decide) (Nat.le_of_ble_eq_true rfl) rfl (c_placeOf h20 (by omega) h11 h12 (fun v13 e13 b13 => ?_))
    refine go_ireturn (y := mX10_placeInList) (pc := 16) dX10_placeInList_16 rfl ?_
    rw [e13]
    exact K k rfl (by omega)
  · exact absurd g0 g
set_option maxRecDepth 8000 in
set_option maxHeartbeats 4000000 in
theorem h_proposer {m : Int} (hm : rng m) (hS : wfS (su μ)) (hC : wfC (su μ) σ) (g0 : 0 ≤ m ∧ m < σ 5 0) {Q : Option Value → Mem → Prop} {X : String → Mem → Prop} (K : ∀ k : Nat, m = k → (k : Int) < σ 5 0 → Q (some (.int (iI (σ 6 k)))) (put 20 σ μ)) : mt 276 7 0 0 mX10_proposer [.ref 0, .int (iI m)] Q X (put 20 σ μ) := by
  show go 276 7 0 0 mX10_proposer Q X 0 [.ref 0, .int (iI m)] [] _
  have n1 : 1 ≤ su μ 0 7 := hS.2.2.2.2.2.2.2.2.2.2.2.2.2.2.1
  have n2 : su μ 0 7 ≤ 12 := hS.2.2.2.2.2.2.2.2.2.2.2.2.2.2.2.1
  have c4 : su μ 0 0 ≤ 4 := hS.2.1
  have h5 := hC.1.1
  have h16 := hC.1.2.1
  have h11 := hC.1.2.2.1
  have h12 : σ 11 0 ≤ 12 := by have := hC.1.2.2.2.1; omega
  have hS' := hS
  have hC' := hC
  by_cases g : 0 ≤ m ∧ m < σ 5 0
  · obtain ⟨k, rfl⟩ := Int.eq_ofNat_of_zero_le g.1
    have g2 := g.2
    refine go_aload_n (y := mX10_proposer) (pc := 0) dX10_proposer_0 rfl rfl ?_
    refine go_iload_n (y := mX10_proposer) (pc := 1) dX10_proposer_1 rfl rfl ?_
    refine go_callV1 (y := mX10_proposer) (pc := 2) (y' := mX10_requireMotion) (kc2 := 0) (ks2 := 0) dX10_proposer_2 ml_X10_188 ok_X10_requireMotion (show shp 0 = _ from rfl) ⟨_, _, rfl⟩ (by decide) rfl (by decide) (Nat.le_of_ble_eq_true rfl) rfl (h_requireMotion g (by omega) ?_)
    refine go_aload_n (y := mX10_proposer) (pc := 5) dX10_proposer_5 rfl rfl ?_
    refine go_getR (y := mX10_proposer) (pc := 6) dX10_proposer_6 fl_X10_47 rfl rfl (by decide) ?_
    refine go_getR (y := mX10_proposer) (pc := 9) dX10_proposer_9 fl_X10_191 (ch_sh h20 0 (by decide)) rfl (ch_z (r := 0) h20 (by decide)) ?_
    refine go_getR (y := mX10_proposer) (pc := 12) dX10_proposer_12 fl_X10_219 (ch_sh h20 5 (by decide)) rfl (ch_z (r := 5) h20 (by decide)) ?_
    refine go_iload_n (y := mX10_proposer) (pc := 15) dX10_proposer_15 rfl rfl ?_
    refine go_cial (y := mX10_proposer) (pc := 16) (r := 6) (k := k) dX10_proposer_16 h20 (by decide) rfl (by decide) rfl (by omega) (by decide) (fun r16 => ?_)
    refine go_ireturn (y := mX10_proposer) (pc := 17) dX10_proposer_17 rfl ?_
    exact K k rfl (by omega)
  · exact absurd g0 g
set_option maxRecDepth 8000 in
set_option maxHeartbeats 4000000 in
theorem h_motionState {m : Int} (hm : rng m) (hS : wfS (su μ)) (hC : wfC (su μ) σ) (g0 : 0 ≤ m ∧ m < σ 5 0) {Q : Option Value → Mem → Prop} {X : String → Mem → Prop} (K : ∀ k : Nat, m = k → (k : Int) < σ 5 0 → Q (some (.int (iI (σ 7 k)))) (put 20 σ μ)) : mt 276 7 0 0 mX10_motionState [.ref 0, .int (iI m)] Q X (put 20 σ μ) := by
  show go 276 7 0 0 mX10_motionState Q X 0 [.ref 0, .int (iI m)] [] _
  have n1 : 1 ≤ su μ 0 7 := hS.2.2.2.2.2.2.2.2.2.2.2.2.2.2.1
  have n2 : su μ 0 7 ≤ 12 := hS.2.2.2.2.2.2.2.2.2.2.2.2.2.2.2.1
  have c4 : su μ 0 0 ≤ 4 := hS.2.1
  have h5 := hC.1.1
  have h16 := hC.1.2.1
  have h11 := hC.1.2.2.1
  have h12 : σ 11 0 ≤ 12 := by have := hC.1.2.2.2.1; omega
  have hS' := hS
  have hC' := hC
  by_cases g : 0 ≤ m ∧ m < σ 5 0
  · obtain ⟨k, rfl⟩ := Int.eq_ofNat_of_zero_le g.1
    have g2 := g.2
    refine go_aload_n (y := mX10_motionState) (pc := 0) dX10_motionState_0 rfl rfl ?_
    refine go_iload_n (y := mX10_motionState) (pc := 1) dX10_motionState_1 rfl rfl ?_
    refine go_callV1 (y := mX10_motionState) (pc := 2) (y' := mX10_requireMotion) (kc2 := 0) (ks2 := 0) dX10_motionState_2 ml_X10_188 ok_X10_requireMotion (show shp 0 = _ from rfl) ⟨_, _, rfl⟩ (by decide) rfl (by decide) (Nat.le_of_ble_eq_true rfl) rfl (h_requireMotion g (by omega) ?_)
    refine go_aload_n (y := mX10_motionState) (pc := 5) dX10_motionState_5 rfl rfl ?_
    refine go_getR (y := mX10_motionState) (pc := 6) dX10_motionState_6 fl_X10_47 rfl rfl (by decide) ?_
    refine go_getR (y := mX10_motionState) (pc := 9) dX10_motionState_9 fl_X10_191 (ch_sh h20 0 (by decide)) rfl (ch_z (r := 0) h20 (by decide)) ?_
    refine go_getR (y := mX10_motionState) (pc := 12) dX10_motionState_12 fl_X10_222 (ch_sh h20 5 (by decide)) rfl (ch_z (r := 5) h20 (by decide)) ?_
    refine go_iload_n (y := mX10_motionState) (pc := 15) dX10_motionState_15 rfl rfl ?_
    refine go_cial (y := mX10_motionState) (pc := 16) (r := 7) (k := k) dX10_motionState_16 h20 (by decide) rfl (by decide) rfl (by omega) (by decide) (fun r16 => ?_)
    refine go_ireturn (y := mX10_motionState) (pc := 17) dX10_motionState_17 rfl ?_
    exact K k rfl (by omega)
  · exact absurd g0 g
set_option maxRecDepth 8000 in
set_option maxHeartbeats 4000000 in
theorem h_lather {m : Int} (hm : rng m) (hS : wfS (su μ)) (hC : wfC (su μ) σ) (g0 : 0 ≤ m ∧ m < σ 5 0) {Q : Option Value → Mem → Prop} {X : String → Mem → Prop} (K : ∀ k : Nat, m = k → (k : Int) < σ 5 0 → Q (some (.int (iI (σ 8 k)))) (put 20 σ μ)) : mt 276 7 0 0 mX10_lather [.ref 0, .int (iI m)] Q X (put 20 σ μ) := by
  show go 276 7 0 0 mX10_lather Q X 0 [.ref 0, .int (iI m)] [] _
  have n1 : 1 ≤ su μ 0 7 := hS.2.2.2.2.2.2.2.2.2.2.2.2.2.2.1
  have n2 : su μ 0 7 ≤ 12 := hS.2.2.2.2.2.2.2.2.2.2.2.2.2.2.2.1
  have c4 : su μ 0 0 ≤ 4 := hS.2.1
  have h5 := hC.1.1
  have h16 := hC.1.2.1
  have h11 := hC.1.2.2.1
  have h12 : σ 11 0 ≤ 12 := by have := hC.1.2.2.2.1; omega
  have hS' := hS
  have hC' := hC
  by_cases g : 0 ≤ m ∧ m < σ 5 0
  · obtain ⟨k, rfl⟩ := Int.eq_ofNat_of_zero_le g.1
    have g2 := g.2
    refine go_aload_n (y := mX10_lather) (pc := 0) dX10_lather_0 rfl rfl ?_
    refine go_iload_n (y := mX10_lather) (pc := 1) dX10_lather_1 rfl rfl ?_
    refine go_callV1 (y := mX10_lather) (pc := 2) (y' := mX10_requireMotion) (kc2 := 0) (ks2 := 0) dX10_lather_2 ml_X10_188 ok_X10_requireMotion (show shp 0 = _ from rfl) ⟨_, _, rfl⟩ (by decide) rfl (by decide) (Nat.le_of_ble_eq_true rfl) rfl (h_requireMotion g (by omega) ?_)
    refine go_aload_n (y := mX10_lather) (pc := 5) dX10_lather_5 rfl rfl ?_
    refine go_getR (y := mX10_lather) (pc := 6) dX10_lather_6 fl_X10_47 rfl rfl (by decide) ?_
    refine go_getR (y := mX10_lather) (pc := 9) dX10_lather_9 fl_X10_191 (ch_sh h20 0 (by decide)) rfl (ch_z (r := 0) h20 (by decide)) ?_
    refine go_getR (y := mX10_lather) (pc := 12) dX10_lather_12 fl_X10_225 (ch_sh h20 5 (by decide)) rfl (ch_z (r := 5) h20 (by decide)) ?_
    refine go_iload_n (y := mX10_lather) (pc := 15) dX10_lather_15 rfl rfl ?_
    refine go_cial (y := mX10_lather) (pc := 16) (r := 8) (k := k) dX10_lather_16 h20 (by decide) rfl (by decide) rfl (by omega) (by decide) (fun r16 => ?_)
    refine go_ireturn (y := mX10_lather) (pc := 17) dX10_lather_17 rfl ?_
    exact K k rfl (by omega)
  · exact absurd g0 g
set_option maxRecDepth 8000 in
set_option maxHeartbeats 4000000 in
theorem h_weightFor {m : Int} (hm : rng m) (hS : wfS (su μ)) (hC : wfC (su μ) σ) (g0 : 0 ≤ m ∧ m < σ 5 0) {Q : Option Value → Mem → Prop} {X : String → Mem → Prop} (K : ∀ k : Nat, m = k → (k : Int) < σ 5 0 → Q (some (.int (iI (wvt (su μ) σ k 1)))) (put 20 σ μ)) : mt 276 7 0 0 mX10_weightFor [.ref 0, .int (iI m)] Q X (put 20 σ μ) := by
  show go 276 7 0 0 mX10_weightFor Q X 0 [.ref 0, .int (iI m)] [] _
  have n1 : 1 ≤ su μ 0 7 := hS.2.2.2.2.2.2.2.2.2.2.2.2.2.2.1
  have n2 : su μ 0 7 ≤ 12 := hS.2.2.2.2.2.2.2.2.2.2.2.2.2.2.2.1
  have c4 : su μ 0 0 ≤ 4 := hS.2.1
  have h5 := hC.1.1
  have h16 := hC.1.2.1
  have h11 := hC.1.2.2.1
  have h12 : σ 11 0 ≤ 12 := by have := hC.1.2.2.2.1; omega
  have hS' := hS
  have hC' := hC
  by_cases g : 0 ≤ m ∧ m < σ 5 0
  · obtain ⟨k, rfl⟩ := Int.eq_ofNat_of_zero_le g.1
    have g2 := g.2
    refine go_aload_n (y := mX10_weightFor) (pc := 0) dX10_weightFor_0 rfl rfl ?_
    refine go_iload_n (y := mX10_weightFor) (pc := 1) dX10_weightFor_1 rfl rfl ?_
    refine go_callV1 (y := mX10_weightFor) (pc := 2) (y' := mX10_requireMotion) (kc2 := 0) (ks2 := 0) dX10_weightFor_2 ml_X10_188 ok_X10_requireMotion (show shp 0 = _ from rfl) ⟨_, _, rfl⟩ (by decide) rfl (by decide) (Nat.le_of_ble_eq_true rfl) rfl (h_requireMotion g (by omega) ?_)
    refine go_aload_n (y := mX10_weightFor) (pc := 5) dX10_weightFor_5 rfl rfl ?_
    refine go_getR (y := mX10_weightFor) (pc := 6) dX10_weightFor_6 fl_X10_47 rfl rfl (by decide) ?_
    refine go_iload_n (y := mX10_weightFor) (pc := 9) dX10_weightFor_9 rfl rfl ?_
    refine go_iconst (y := mX10_weightFor) (pc := 10) dX10_weightFor_10 ?_
    refine go_callV2 (y := mX10_weightFor) (pc := 11) (y' := mX1_weightOfVotes) (kc2 := 0) (ks2 := 0) dX10_weightFor_11 ml_X10_228 ok_X1_weightOfVotes (ch_sh h20 0 (by decide)) ⟨_, _, rfl⟩ (ch_z (r := 0) h20 (by decide)) ⟨rfl, rfl⟩ (by decide) (Nat.le_of_ble_eq_true rfl) rfl (c_weightOfVotes h20 (q := k) (by omega) (by omega) hS (fun v11 e11 b11 => ?_))
    refine go_ireturn (y := mX10_weightFor) (pc := 14) dX10_weightFor_14 rfl ?_
    rw [e11]
    exact K k rfl (by omega)
  · exact absurd g0 g
set_option maxRecDepth 8000 in
set_option maxHeartbeats 4000000 in
theorem h_weightAgainst {m : Int} (hm : rng m) (hS : wfS (su μ)) (hC : wfC (su μ) σ) (g0 : 0 ≤ m ∧ m < σ 5 0) {Q : Option Value → Mem → Prop} {X : String → Mem → Prop} (K : ∀ k : Nat, m = k → (k : Int) < σ 5 0 → Q (some (.int (iI (wvt (su μ) σ k (-1))))) (put 20 σ μ)) : mt 276 7 0 0 mX10_weightAgainst [.ref 0, .int (iI m)] Q X (put 20 σ μ) := by
  show go 276 7 0 0 mX10_weightAgainst Q X 0 [.ref 0, .int (iI m)] [] _
  have n1 : 1 ≤ su μ 0 7 := hS.2.2.2.2.2.2.2.2.2.2.2.2.2.2.1
  have n2 : su μ 0 7 ≤ 12 := hS.2.2.2.2.2.2.2.2.2.2.2.2.2.2.2.1
  have c4 : su μ 0 0 ≤ 4 := hS.2.1
  have h5 := hC.1.1
  have h16 := hC.1.2.1
  have h11 := hC.1.2.2.1
  have h12 : σ 11 0 ≤ 12 := by have := hC.1.2.2.2.1; omega
  have hS' := hS
  have hC' := hC
  by_cases g : 0 ≤ m ∧ m < σ 5 0
  · obtain ⟨k, rfl⟩ := Int.eq_ofNat_of_zero_le g.1
    have g2 := g.2
    refine go_aload_n (y := mX10_weightAgainst) (pc := 0) dX10_weightAgainst_0 rfl rfl ?_
    refine go_iload_n (y := mX10_weightAgainst) (pc := 1) dX10_weightAgainst_1 rfl rfl ?_
    refine go_callV1 (y := mX10_weightAgainst) (pc := 2) (y' := mX10_requireMotion) (kc2 := 0) (ks2 := 0) dX10_weightAgainst_2 ml_X10_188 ok_X10_requireMotion (show shp 0 = _ from rfl) ⟨_, _, rfl⟩ (by decide) rfl (by decide) (Nat.le_of_ble_eq_true rfl) rfl (h_requireMotion g (by omega) ?_)
    refine go_aload_n (y := mX10_weightAgainst) (pc := 5) dX10_weightAgainst_5 rfl rfl ?_
    refine go_getR (y := mX10_weightAgainst) (pc := 6) dX10_weightAgainst_6 fl_X10_47 rfl rfl (by decide) ?_
    refine go_iload_n (y := mX10_weightAgainst) (pc := 9) dX10_weightAgainst_9 rfl rfl ?_
    refine go_iconst (y := mX10_weightAgainst) (pc := 10) dX10_weightAgainst_10 ?_
    refine go_callV2 (y := mX10_weightAgainst) (pc := 11) (y' := mX1_weightOfVotes) (kc2 := 0) (ks2 := 0) dX10_weightAgainst_11 ml_X10_228 ok_X1_weightOfVotes (ch_sh h20 0 (by decide)) ⟨_, _, rfl⟩ (ch_z (r := 0) h20 (by decide)) ⟨rfl, rfl⟩ (by decide) (Nat.le_of_ble_eq_true rfl) rfl (c_weightOfVotes h20 (q := k) (by omega) (by omega) hS (fun v11 e11 b11 => ?_))
    refine go_ireturn (y := mX10_weightAgainst) (pc := 14) dX10_weightAgainst_14 rfl ?_
    rw [e11]
    exact K k rfl (by omega)
  · exact absurd g0 g
set_option maxRecDepth 8000 in
set_option maxHeartbeats 4000000 in
theorem h_voterCount {m : Int} (hm : rng m) (hS : wfS (su μ)) (hC : wfC (su μ) σ) (g0 : 0 ≤ m ∧ m < σ 5 0) {Q : Option Value → Mem → Prop} {X : String → Mem → Prop} (K : ∀ k : Nat, m = k → (k : Int) < σ 5 0 → Q (some (.int (iI (nvt (su μ) σ k)))) (put 20 σ μ)) : mt 276 7 0 0 mX10_voterCount [.ref 0, .int (iI m)] Q X (put 20 σ μ) := by
  show go 276 7 0 0 mX10_voterCount Q X 0 [.ref 0, .int (iI m)] [] _
  have n1 : 1 ≤ su μ 0 7 := hS.2.2.2.2.2.2.2.2.2.2.2.2.2.2.1
  have n2 : su μ 0 7 ≤ 12 := hS.2.2.2.2.2.2.2.2.2.2.2.2.2.2.2.1
  have c4 : su μ 0 0 ≤ 4 := hS.2.1
  have h5 := hC.1.1
  have h16 := hC.1.2.1
  have h11 := hC.1.2.2.1
  have h12 : σ 11 0 ≤ 12 := by have := hC.1.2.2.2.1; omega
  have hS' := hS
  have hC' := hC
  by_cases g : 0 ≤ m ∧ m < σ 5 0
  · obtain ⟨k, rfl⟩ := Int.eq_ofNat_of_zero_le g.1
    have g2 := g.2
    refine go_aload_n (y := mX10_voterCount) (pc := 0) dX10_voterCount_0 rfl rfl ?_
    refine go_iload_n (y := mX10_voterCount) (pc := 1) dX10_voterCount_1 rfl rfl ?_
    refine go_callV1 (y := mX10_voterCount) (pc := 2) (y' := mX10_requireMotion) (kc2 := 0) (ks2 := 0) dX10_voterCount_2 ml_X10_188 ok_X10_requireMotion (show shp 0 = _ from rfl) ⟨_, _, rfl⟩ (by decide) rfl (by decide) (Nat.le_of_ble_eq_true rfl) rfl (h_requireMotion g (by omega) ?_)
    refine go_aload_n (y := mX10_voterCount) (pc := 5) dX10_voterCount_5 rfl rfl ?_
    refine go_getR (y := mX10_voterCount) (pc := 6) dX10_voterCount_6 fl_X10_47 rfl rfl (by decide) ?_
    refine go_iload_n (y := mX10_voterCount) (pc := 9) dX10_voterCount_9 rfl rfl ?_
    refine go_callV1 (y := mX10_voterCount) (pc := 10) (y' := mX1_countVoters) (kc2 := 0) (ks2 := 0) dX10_voterCount_10 ml_X10_231 ok_X1_countVoters (ch_sh h20 0 (by decide)) ⟨_, _, rfl⟩ (ch_z (r := 0) h20 (by decide)) rfl (by decide) (Nat.le_of_ble_eq_true rfl) rfl (c_countVoters h20 (q := k) (by omega) (by omega) (by omega) (fun v10 e10 b10 => ?_))
    refine go_ireturn (y := mX10_voterCount) (pc := 13) dX10_voterCount_13 rfl ?_
    rw [e10]
    exact K k rfl (by omega)
  · exact absurd g0 g
set_option maxRecDepth 8000 in
set_option maxHeartbeats 4000000 in
theorem h_obstacle {m : Int} (hm : rng m) (hS : wfS (su μ)) (hC : wfC (su μ) σ) (g0 : 0 ≤ m ∧ m < σ 5 0) {Q : Option Value → Mem → Prop} {X : String → Mem → Prop} (K : ∀ k : Nat, m = k → (k : Int) < σ 5 0 → Q (some (.int (iI (obo (su μ) σ k)))) (put 20 σ μ)) : mt 276 7 0 0 mX10_obstacle [.ref 0, .int (iI m)] Q X (put 20 σ μ) := by
  show go 276 7 0 0 mX10_obstacle Q X 0 [.ref 0, .int (iI m)] [] _
  have n1 : 1 ≤ su μ 0 7 := hS.2.2.2.2.2.2.2.2.2.2.2.2.2.2.1
  have n2 : su μ 0 7 ≤ 12 := hS.2.2.2.2.2.2.2.2.2.2.2.2.2.2.2.1
  have c4 : su μ 0 0 ≤ 4 := hS.2.1
  have h5 := hC.1.1
  have h16 := hC.1.2.1
  have h11 := hC.1.2.2.1
  have h12 : σ 11 0 ≤ 12 := by have := hC.1.2.2.2.1; omega
  have hS' := hS
  have hC' := hC
  by_cases g : 0 ≤ m ∧ m < σ 5 0
  · obtain ⟨k, rfl⟩ := Int.eq_ofNat_of_zero_le g.1
    have g2 := g.2
    refine go_aload_n (y := mX10_obstacle) (pc := 0) dX10_obstacle_0 rfl rfl ?_
    refine go_iload_n (y := mX10_obstacle) (pc := 1) dX10_obstacle_1 rfl rfl ?_
    refine go_callV1 (y := mX10_obstacle) (pc := 2) (y' := mX10_requireMotion) (kc2 := 0) (ks2 := 0) dX10_obstacle_2 ml_X10_188 ok_X10_requireMotion (show shp 0 = _ from rfl) ⟨_, _, rfl⟩ (by decide) rfl (by decide) (Nat.le_of_ble_eq_true rfl) rfl (h_requireMotion g (by omega) ?_)
    refine go_aload_n (y := mX10_obstacle) (pc := 5) dX10_obstacle_5 rfl rfl ?_
    refine go_getR (y := mX10_obstacle) (pc := 6) dX10_obstacle_6 fl_X10_47 rfl rfl (by decide) ?_
    refine go_iload_n (y := mX10_obstacle) (pc := 9) dX10_obstacle_9 rfl rfl ?_
    refine go_callV1 (y := mX10_obstacle) (pc := 10) (y' := mX1_obstacleTo) (kc2 := 0) (ks2 := 0) dX10_obstacle_10 ml_X10_234 ok_X1_obstacleTo (ch_sh h20 0 (by decide)) ⟨_, _, rfl⟩ (ch_z (r := 0) h20 (by decide)) rfl (by decide) (Nat.le_of_ble_eq_true rfl) rfl (c_obstacleTo h20 (by omega) hS h16 (fun v10 e10 b10 => ?_))
    refine go_ireturn (y := mX10_obstacle) (pc := 13) dX10_obstacle_13 rfl ?_
    rw [e10]
    exact K k rfl (by omega)
  · exact absurd g0 g
set_option maxRecDepth 8000 in
set_option maxHeartbeats 4000000 in
theorem h_decisiveVoter {m : Int} (hm : rng m) (hS : wfS (su μ)) (hC : wfC (su μ) σ) (g0 : 0 ≤ m ∧ m < σ 5 0) {Q : Option Value → Mem → Prop} {X : String → Mem → Prop} (K : ∀ k : Nat, m = k → (k : Int) < σ 5 0 → Q (some (.int (iI ((ltk (su μ) σ k (su μ 0 7).toNat).1)))) (put 20 σ μ)) : mt 276 7 0 0 mX10_decisiveVoter [.ref 0, .int (iI m)] Q X (put 20 σ μ) := by
  show go 276 7 0 0 mX10_decisiveVoter Q X 0 [.ref 0, .int (iI m)] [] _
  have n1 : 1 ≤ su μ 0 7 := hS.2.2.2.2.2.2.2.2.2.2.2.2.2.2.1
  have n2 : su μ 0 7 ≤ 12 := hS.2.2.2.2.2.2.2.2.2.2.2.2.2.2.2.1
  have c4 : su μ 0 0 ≤ 4 := hS.2.1
  have h5 := hC.1.1
  have h16 := hC.1.2.1
  have h11 := hC.1.2.2.1
  have h12 : σ 11 0 ≤ 12 := by have := hC.1.2.2.2.1; omega
  have hS' := hS
  have hC' := hC
  by_cases g : 0 ≤ m ∧ m < σ 5 0
  · obtain ⟨k, rfl⟩ := Int.eq_ofNat_of_zero_le g.1
    have g2 := g.2
    refine go_aload_n (y := mX10_decisiveVoter) (pc := 0) dX10_decisiveVoter_0 rfl rfl ?_
    refine go_iload_n (y := mX10_decisiveVoter) (pc := 1) dX10_decisiveVoter_1 rfl rfl ?_
    refine go_callV1 (y := mX10_decisiveVoter) (pc := 2) (y' := mX10_requireMotion) (kc2 := 0) (ks2 := 0) dX10_decisiveVoter_2 ml_X10_188 ok_X10_requireMotion (show shp 0 = _ from rfl) ⟨_, _, rfl⟩ (by decide) rfl (by decide) (Nat.le_of_ble_eq_true rfl) rfl (h_requireMotion g (by omega) ?_)
    refine go_aload_n (y := mX10_decisiveVoter) (pc := 5) dX10_decisiveVoter_5 rfl rfl ?_
    refine go_getR (y := mX10_decisiveVoter) (pc := 6) dX10_decisiveVoter_6 fl_X10_47 rfl rfl (by decide) ?_
    refine go_iload_n (y := mX10_decisiveVoter) (pc := 9) dX10_decisiveVoter_9 rfl rfl ?_
    refine go_callV1 (y := mX10_decisiveVoter) (pc := 10) (y' := mX1_lightestTurner) (kc2 := 0) (ks2 := 0) dX10_decisiveVoter_10 ml_X10_240 ok_X1_lightestTurner (ch_sh h20 0 (by decide)) ⟨_, _, rfl⟩ (ch_z (r := 0) h20 (by decide)) rfl (by decide) (Nat.le_of_ble_eq_true rfl) rfl (c_lightestTurner h20 (q := k) (by omega) hS (fun v10 e10 b10 => ?_))
    refine go_ireturn (y := mX10_decisiveVoter) (pc := 13) dX10_decisiveVoter_13 rfl ?_
    rw [e10]
    exact K k rfl (by omega)
  · exact absurd g0 g
set_option maxRecDepth 8000 in
set_option maxHeartbeats 4000000 in
theorem h_speaker {m : Int} (hm : rng m) (hS : wfS (su μ)) (hC : wfC (su μ) σ) (g0 : 0 ≤ m ∧ m < su μ 0 0) {Q : Option Value → Mem → Prop} {X : String → Mem → Prop} (K : ∀ k : Nat, m = k → (k : Int) < su μ 0 0 → Q (some (.int (iI (σ 16 k)))) (put 20 σ μ)) : mt 276 7 0 0 mX10_speaker [.ref 0, .int (iI m)] Q X (put 20 σ μ) := by
  show go 276 7 0 0 mX10_speaker Q X 0 [.ref 0, .int (iI m)] [] _
  have n1 : 1 ≤ su μ 0 7 := hS.2.2.2.2.2.2.2.2.2.2.2.2.2.2.1
  have n2 : su μ 0 7 ≤ 12 := hS.2.2.2.2.2.2.2.2.2.2.2.2.2.2.2.1
  have c4 : su μ 0 0 ≤ 4 := hS.2.1
  have h5 := hC.1.1
  have h16 := hC.1.2.1
  have h11 := hC.1.2.2.1
  have h12 : σ 11 0 ≤ 12 := by have := hC.1.2.2.2.1; omega
  have hS' := hS
  have hC' := hC
  by_cases g : 0 ≤ m ∧ m < su μ 0 0
  · obtain ⟨k, rfl⟩ := Int.eq_ofNat_of_zero_le g.1
    have g2 := g.2
    refine go_aload_n (y := mX10_speaker) (pc := 0) dX10_speaker_0 rfl rfl ?_
    refine go_iload_n (y := mX10_speaker) (pc := 1) dX10_speaker_1 rfl rfl ?_
    refine go_callV1 (y := mX10_speaker) (pc := 2) (y' := mX10_requireChair) (kc2 := 0) (ks2 := 0) dX10_speaker_2 ml_X10_256 ok_X10_requireChair (show shp 0 = _ from rfl) ⟨_, _, rfl⟩ (by decide) rfl (by decide) (Nat.le_of_ble_eq_true rfl) rfl (h_requireChair g (by omega) ?_)
    refine go_aload_n (y := mX10_speaker) (pc := 5) dX10_speaker_5 rfl rfl ?_
    refine go_getR (y := mX10_speaker) (pc := 6) dX10_speaker_6 fl_X10_47 rfl rfl (by decide) ?_
    refine go_getR (y := mX10_speaker) (pc := 9) dX10_speaker_9 fl_X10_200 (ch_sh h20 0 (by decide)) rfl (ch_z (r := 0) h20 (by decide)) ?_
    refine go_getR (y := mX10_speaker) (pc := 12) dX10_speaker_12 fl_X10_259 (ch_sh h20 15 (by decide)) rfl (ch_z (r := 15) h20 (by decide)) ?_
    refine go_iload_n (y := mX10_speaker) (pc := 15) dX10_speaker_15 rfl rfl ?_
    refine go_cial (y := mX10_speaker) (pc := 16) (r := 16) (k := k) dX10_speaker_16 h20 (by decide) rfl (by decide) rfl (by omega) (by decide) (fun r16 => ?_)
    refine go_ireturn (y := mX10_speaker) (pc := 17) dX10_speaker_17 rfl ?_
    exact K k rfl (by omega)
  · exact absurd g0 g
set_option maxRecDepth 8000 in
set_option maxHeartbeats 4000000 in
theorem h_remainingTime {m : Int} (hm : rng m) (hS : wfS (su μ)) (hC : wfC (su μ) σ) (g0 : 0 ≤ m ∧ m < su μ 0 0) {Q : Option Value → Mem → Prop} {X : String → Mem → Prop} (K : ∀ k : Nat, m = k → (k : Int) < su μ 0 0 → Q (some (.int (iI (σ 19 k)))) (put 20 σ μ)) : mt 276 7 0 0 mX10_remainingTime [.ref 0, .int (iI m)] Q X (put 20 σ μ) := by
  show go 276 7 0 0 mX10_remainingTime Q X 0 [.ref 0, .int (iI m)] [] _
  have n1 : 1 ≤ su μ 0 7 := hS.2.2.2.2.2.2.2.2.2.2.2.2.2.2.1
  have n2 : su μ 0 7 ≤ 12 := hS.2.2.2.2.2.2.2.2.2.2.2.2.2.2.2.1
  have c4 : su μ 0 0 ≤ 4 := hS.2.1
  have h5 := hC.1.1
  have h16 := hC.1.2.1
  have h11 := hC.1.2.2.1
  have h12 : σ 11 0 ≤ 12 := by have := hC.1.2.2.2.1; omega
  have hS' := hS
  have hC' := hC
  by_cases g : 0 ≤ m ∧ m < su μ 0 0
  · obtain ⟨k, rfl⟩ := Int.eq_ofNat_of_zero_le g.1
    have g2 := g.2
    refine go_aload_n (y := mX10_remainingTime) (pc := 0) dX10_remainingTime_0 rfl rfl ?_
    refine go_iload_n (y := mX10_remainingTime) (pc := 1) dX10_remainingTime_1 rfl rfl ?_
    refine go_callV1 (y := mX10_remainingTime) (pc := 2) (y' := mX10_requireChair) (kc2 := 0) (ks2 := 0) dX10_remainingTime_2 ml_X10_256 ok_X10_requireChair (show shp 0 = _ from rfl) ⟨_, _, rfl⟩ (by decide) rfl (by decide) (Nat.le_of_ble_eq_true rfl) rfl (h_requireChair g (by omega) ?_)
    refine go_aload_n (y := mX10_remainingTime) (pc := 5) dX10_remainingTime_5 rfl rfl ?_
    refine go_getR (y := mX10_remainingTime) (pc := 6) dX10_remainingTime_6 fl_X10_47 rfl rfl (by decide) ?_
    refine go_getR (y := mX10_remainingTime) (pc := 9) dX10_remainingTime_9 fl_X10_200 (ch_sh h20 0 (by decide)) rfl (ch_z (r := 0) h20 (by decide)) ?_
    refine go_getR (y := mX10_remainingTime) (pc := 12) dX10_remainingTime_12 fl_X10_274 (ch_sh h20 15 (by decide)) rfl (ch_z (r := 15) h20 (by decide)) ?_
    refine go_iload_n (y := mX10_remainingTime) (pc := 15) dX10_remainingTime_15 rfl rfl ?_
    refine go_cial (y := mX10_remainingTime) (pc := 16) (r := 19) (k := k) dX10_remainingTime_16 h20 (by decide) rfl (by decide) rfl (by omega) (by decide) (fun r16 => ?_)
    refine go_ireturn (y := mX10_remainingTime) (pc := 17) dX10_remainingTime_17 rfl ?_
    exact K k rfl (by omega)
  · exact absurd g0 g
set_option maxRecDepth 8000 in
set_option maxHeartbeats 4000000 in
theorem h_isRebutted {m : Int} (hm : rng m) (hS : wfS (su μ)) (hC : wfC (su μ) σ) (g0 : 0 ≤ m ∧ m < su μ 0 0) {Q : Option Value → Mem → Prop} {X : String → Mem → Prop} (K : ∀ k : Nat, m = k → (k : Int) < su μ 0 0 → Q (some (.int (iI (bI (0 < σ 20 k))))) (put 20 σ μ)) : mt 276 7 0 0 mX10_isRebutted [.ref 0, .int (iI m)] Q X (put 20 σ μ) := by
  show go 276 7 0 0 mX10_isRebutted Q X 0 [.ref 0, .int (iI m)] [] _
  have n1 : 1 ≤ su μ 0 7 := hS.2.2.2.2.2.2.2.2.2.2.2.2.2.2.1
  have n2 : su μ 0 7 ≤ 12 := hS.2.2.2.2.2.2.2.2.2.2.2.2.2.2.2.1
  have c4 : su μ 0 0 ≤ 4 := hS.2.1
  have h5 := hC.1.1
  have h16 := hC.1.2.1
  have h11 := hC.1.2.2.1
  have h12 : σ 11 0 ≤ 12 := by have := hC.1.2.2.2.1; omega
  have hS' := hS
  have hC' := hC
  by_cases g : 0 ≤ m ∧ m < su μ 0 0
  · obtain ⟨k, rfl⟩ := Int.eq_ofNat_of_zero_le g.1
    have g2 := g.2
    refine go_aload_n (y := mX10_isRebutted) (pc := 0) dX10_isRebutted_0 rfl rfl ?_
    refine go_iload_n (y := mX10_isRebutted) (pc := 1) dX10_isRebutted_1 rfl rfl ?_
    refine go_callV1 (y := mX10_isRebutted) (pc := 2) (y' := mX10_requireChair) (kc2 := 0) (ks2 := 0) dX10_isRebutted_2 ml_X10_256 ok_X10_requireChair (show shp 0 = _ from rfl) ⟨_, _, rfl⟩ (by decide) rfl (by decide) (Nat.le_of_ble_eq_true rfl) rfl (h_requireChair g (by omega) ?_)
    refine go_aload_n (y := mX10_isRebutted) (pc := 5) dX10_isRebutted_5 rfl rfl ?_
    refine go_getR (y := mX10_isRebutted) (pc := 6) dX10_isRebutted_6 fl_X10_47 rfl rfl (by decide) ?_
    refine go_getR (y := mX10_isRebutted) (pc := 9) dX10_isRebutted_9 fl_X10_200 (ch_sh h20 0 (by decide)) rfl (ch_z (r := 0) h20 (by decide)) ?_
    refine go_iload_n (y := mX10_isRebutted) (pc := 12) dX10_isRebutted_12 rfl rfl ?_
    refine go_callV1 (y := mX10_isRebutted) (pc := 13) (y' := mX0_isRebuttedAt) (kc2 := 0) (ks2 := 0) dX10_isRebutted_13 ml_X10_277 ok_X0_isRebuttedAt (ch_sh h20 15 (by decide)) ⟨_, _, rfl⟩ (ch_z (r := 15) h20 (by decide)) rfl (by decide) (Nat.le_of_ble_eq_true rfl) rfl (c_isReb h20 (h := k) (by omega) (fun v13 e13 b13 => ?_))
    refine go_zreturn (y := mX10_isRebutted) (pc := 16) dX10_isRebutted_16 rfl (by omega) ?_
    rw [e13]
    exact K k rfl (by omega)
  · exact absurd g0 g
set_option maxRecDepth 8000 in
set_option maxHeartbeats 4000000 in
theorem h_wouldPass {m : Int} (hm : rng m) (hS : wfS (su μ)) (hC : wfC (su μ) σ) (g0 : 0 ≤ m ∧ m < σ 5 0) {Q : Option Value → Mem → Prop} {X : String → Mem → Prop} (K : ∀ k : Nat, m = k → (k : Int) < σ 5 0 → Q (some (.int (iI (bI (0 < mgn (su μ) σ k))))) (put 20 σ μ)) : mt 276 7 0 0 mX10_wouldPass [.ref 0, .int (iI m)] Q X (put 20 σ μ) := by
  show go 276 7 0 0 mX10_wouldPass Q X 0 [.ref 0, .int (iI m)] [] _
  have n1 : 1 ≤ su μ 0 7 := hS.2.2.2.2.2.2.2.2.2.2.2.2.2.2.1
  have n2 : su μ 0 7 ≤ 12 := hS.2.2.2.2.2.2.2.2.2.2.2.2.2.2.2.1
  have c4 : su μ 0 0 ≤ 4 := hS.2.1
  have h5 := hC.1.1
  have h16 := hC.1.2.1
  have h11 := hC.1.2.2.1
  have h12 : σ 11 0 ≤ 12 := by have := hC.1.2.2.2.1; omega
  have hS' := hS
  have hC' := hC
  by_cases g : 0 ≤ m ∧ m < σ 5 0
  · obtain ⟨k, rfl⟩ := Int.eq_ofNat_of_zero_le g.1
    have g2 := g.2
    refine go_aload_n (y := mX10_wouldPass) (pc := 0) dX10_wouldPass_0 rfl rfl ?_
    refine go_iload_n (y := mX10_wouldPass) (pc := 1) dX10_wouldPass_1 rfl rfl ?_
    refine go_callV1 (y := mX10_wouldPass) (pc := 2) (y' := mX10_requireMotion) (kc2 := 0) (ks2 := 0) dX10_wouldPass_2 ml_X10_188 ok_X10_requireMotion (show shp 0 = _ from rfl) ⟨_, _, rfl⟩ (by decide) rfl (by decide) (Nat.le_of_ble_eq_true rfl) rfl (h_requireMotion g (by omega) ?_)
    refine go_aload_n (y := mX10_wouldPass) (pc := 5) dX10_wouldPass_5 rfl rfl ?_
    refine go_getR (y := mX10_wouldPass) (pc := 6) dX10_wouldPass_6 fl_X10_47 rfl rfl (by decide) ?_
    refine go_iload_n (y := mX10_wouldPass) (pc := 9) dX10_wouldPass_9 rfl rfl ?_
    refine go_callV1 (y := mX10_wouldPass) (pc := 10) (y' := mX1_marginOf) (kc2 := 0) (ks2 := 0) dX10_wouldPass_10 ml_X10_237 ok_X1_marginOf (ch_sh h20 0 (by decide)) ⟨_, _, rfl⟩ (ch_z (r := 0) h20 (by decide)) rfl (by decide) (Nat.le_of_ble_eq_true rfl) rfl (c_marginOf h20 (q := k) (by omega) hS (fun v10 e10 b10 => ?_))
    refine go_if_le (y := mX10_wouldPass) (pc := 13) (tgt := 20) dX10_wouldPass_13 (by decide) (by omega) (fun h13 => ?_) (fun h13 => ?_)
    · skip
      refine go_iconst (y := mX10_wouldPass) (pc := 20) dX10_wouldPass_20 ?_
      refine go_zreturn (y := mX10_wouldPass) (pc := 21) dX10_wouldPass_21 rfl (by omega) ?_
      have h := K k rfl (by omega)
      rw [bI_f (by omega)] at h
      exact h
    · skip
      refine go_iconst (y := mX10_wouldPass) (pc := 16) dX10_wouldPass_16 ?_
      refine go_goto (y := mX10_wouldPass) (pc := 17) (tgt := 21) dX10_wouldPass_17 (by decide) ?_
      refine go_zreturn (y := mX10_wouldPass) (pc := 21) dX10_wouldPass_21 rfl (by omega) ?_
      have h := K k rfl (by omega)
      rw [bI_t (by omega)] at h
      exact h
  · exact absurd g0 g
set_option maxRecDepth 8000 in
set_option maxHeartbeats 4000000 in
theorem h_firstBy {m : Int} (hm : rng m) (hS : wfS (su μ)) (hC : wfC (su μ) σ) (g0 : 0 ≤ m ∧ m ≤ 3) {Q : Option Value → Mem → Prop} {X : String → Mem → Prop} (K : 0 ≤ m ∧ m ≤ 3 → Q (some (.int (iI (if fsl (su μ) σ m = -1 then -1 else σ 12 (fsl (su μ) σ m).toNat)))) (put 20 σ μ)) : mt 276 7 0 0 mX10_firstBy [.ref 0, .int (iI m)] Q X (put 20 σ μ) := by
  show go 276 7 0 0 mX10_firstBy Q X 0 [.ref 0, .int (iI m), .null] [] _
  have n1 : 1 ≤ su μ 0 7 := hS.2.2.2.2.2.2.2.2.2.2.2.2.2.2.1
  have n2 : su μ 0 7 ≤ 12 := hS.2.2.2.2.2.2.2.2.2.2.2.2.2.2.2.1
  have c4 : su μ 0 0 ≤ 4 := hS.2.1
  have h5 := hC.1.1
  have h16 := hC.1.2.1
  have h11 := hC.1.2.2.1
  have h12 : σ 11 0 ≤ 12 := by have := hC.1.2.2.2.1; omega
  have hS' := hS
  have hC' := hC
  have e1 : rfRk m = if m < 0 ∨ 3 < m then 1 else 0 := rfl
  by_cases g : 0 ≤ m ∧ m ≤ 3
  · rw [if_neg (by omega)] at e1
    refine go_iload_n (y := mX10_firstBy) (pc := 0) dX10_firstBy_0 rfl rfl ?_
    refine go_callS1 (y := mX10_firstBy) (pc := 1) (y' := mX1_refusalOfRanking) (kc2 := 0) (ks2 := 0) dX10_firstBy_1 ml_X10_280 ok_X1_refusalOfRanking rfl (by decide) (Nat.le_of_ble_eq_true rfl) rfl (c_refusalOfRanking (by omega) (fun v1 e1 b1 => ?_))
    refine go_callS1 (y := mX10_firstBy) (pc := 4) (y' := mX10_throwIfRefused) (kc2 := 0) (ks2 := 0) dX10_firstBy_4 ml_X10_283 ok_X10_throwIfRefused rfl (by decide) (Nat.le_of_ble_eq_true rfl) rfl (h_tir (by omega) ?_)
    refine go_aload_n (y := mX10_firstBy) (pc := 7) dX10_firstBy_7 rfl rfl ?_
    refine go_getR (y := mX10_firstBy) (pc := 8) dX10_firstBy_8 fl_X10_47 rfl rfl (by decide) ?_
    refine go_iload_n (y := mX10_firstBy) (pc := 11) dX10_firstBy_11 rfl rfl ?_
    refine go_callV1 (y := mX10_firstBy) (pc := 12) (y' := mX1_firstPlace) (kc2 := 0) (ks2 := 0) dX10_firstBy_12 ml_X10_286 ok_X1_firstPlace (ch_sh h20 0 (by decide)) ⟨_, _, rfl⟩ (ch_z (r := 0) h20 (by decide)) rfl (by decide) (Nat.le_of_ble_eq_true rfl) rfl (c_firstPlace h20 (by omega) hS hC (fun v12 e12 b12 => ?_))
    refine go_istore_n (y := mX10_firstBy) (pc := 15) dX10_firstBy_15 rfl (by decide) ?_
    refine go_iload_n (y := mX10_firstBy) (pc := 16) dX10_firstBy_16 rfl rfl ?_
    refine go_iconst (y := mX10_firstBy) (pc := 17) dX10_firstBy_17 ?_
    refine go_icmp_ne (y := mX10_firstBy) (pc := 18) (tgt := 25) dX10_firstBy_18 (by decide) (by omega) (by omega) (fun h18 => ?_) (fun h18 => ?_)
    · skip
      have h := K g
      rw [if_neg (by omega)] at h
      refine go_aload_n (y := mX10_firstBy) (pc := 25) dX10_firstBy_25 rfl rfl ?_
      refine go_getR (y := mX10_firstBy) (pc := 26) dX10_firstBy_26 fl_X10_47 rfl rfl (by decide) ?_
      refine go_getR (y := mX10_firstBy) (pc := 29) dX10_firstBy_29 fl_X10_209 (ch_sh h20 0 (by decide)) rfl (ch_z (r := 0) h20 (by decide)) ?_
      refine go_getR (y := mX10_firstBy) (pc := 32) dX10_firstBy_32 fl_X10_289 (ch_sh h20 11 (by decide)) rfl (ch_z (r := 11) h20 (by decide)) ?_
      refine go_iload_n (y := mX10_firstBy) (pc := 35) dX10_firstBy_35 rfl rfl ?_
      refine go_cial (y := mX10_firstBy) (pc := 36) (r := 12) (k := ((fsl (su μ) σ m).toNat)) dX10_firstBy_36 h20 (by decide) rfl (by decide) (by omega) (by omega) (by decide) (fun r36 => ?_)
      refine go_ireturn (y := mX10_firstBy) (pc := 37) dX10_firstBy_37 rfl ?_
      exact h
    · skip
      have h := K g
      rw [if_pos (by omega)] at h
      refine go_iconst (y := mX10_firstBy) (pc := 21) dX10_firstBy_21 ?_
      refine go_goto (y := mX10_firstBy) (pc := 22) (tgt := 37) dX10_firstBy_22 (by decide) ?_
      refine go_ireturn (y := mX10_firstBy) (pc := 37) dX10_firstBy_37 rfl ?_
      exact h
  · exact absurd g0 g
set_option maxRecDepth 8000 in
set_option maxHeartbeats 4000000 in
theorem h_leaning {m q : Int} (hm : rng m) (hq : rng q) (hS : wfS (su μ)) (hC : wfC (su μ) σ) (g0 : 0 ≤ m ∧ m < su μ 0 7) (g0' : 0 ≤ q ∧ q < σ 5 0) {Q : Option Value → Mem → Prop} {X : String → Mem → Prop} (K : ∀ k j : Nat, m = k → q = j → (k : Int) < su μ 0 7 → (j : Int) < σ 5 0 → Q (some (.int (iI (ln σ k j)))) (put 20 σ μ)) : mt 276 7 0 0 mX10_leaning [.ref 0, .int (iI m), .int (iI q)] Q X (put 20 σ μ) := by
  show go 276 7 0 0 mX10_leaning Q X 0 [.ref 0, .int (iI m), .int (iI q)] [] _
  have n1 : 1 ≤ su μ 0 7 := hS.2.2.2.2.2.2.2.2.2.2.2.2.2.2.1
  have n2 : su μ 0 7 ≤ 12 := hS.2.2.2.2.2.2.2.2.2.2.2.2.2.2.2.1
  have c4 : su μ 0 0 ≤ 4 := hS.2.1
  have h5 := hC.1.1
  have h16 := hC.1.2.1
  have h11 := hC.1.2.2.1
  have h12 : σ 11 0 ≤ 12 := by have := hC.1.2.2.2.1; omega
  have hS' := hS
  have hC' := hC
  by_cases g : 0 ≤ m ∧ m < su μ 0 7
  · obtain ⟨k, rfl⟩ := Int.eq_ofNat_of_zero_le g.1
    have g2 := g.2
    by_cases g' : 0 ≤ q ∧ q < σ 5 0
    · obtain ⟨j, rfl⟩ := Int.eq_ofNat_of_zero_le g'.1
      have g2' := g'.2
      refine go_aload_n (y := mX10_leaning) (pc := 0) dX10_leaning_0 rfl rfl ?_
      refine go_iload_n (y := mX10_leaning) (pc := 1) dX10_leaning_1 rfl rfl ?_
      refine go_callV1 (y := mX10_leaning) (pc := 2) (y' := mX10_requireMember) (kc2 := 0) (ks2 := 0) dX10_leaning_2 ml_X10_166 ok_X10_requireMember (show shp 0 = _ from rfl) ⟨_, _, rfl⟩ (by decide) rfl (by decide) (Nat.le_of_ble_eq_true rfl) rfl (h_requireMember g (by omega) ?_)
      refine go_aload_n (y := mX10_leaning) (pc := 5) dX10_leaning_5 rfl rfl ?_
      refine go_iload_n (y := mX10_leaning) (pc := 6) dX10_leaning_6 rfl rfl ?_
      refine go_callV1 (y := mX10_leaning) (pc := 7) (y' := mX10_requireMotion) (kc2 := 0) (ks2 := 0) dX10_leaning_7 ml_X10_188 ok_X10_requireMotion (show shp 0 = _ from rfl) ⟨_, _, rfl⟩ (by decide) rfl (by decide) (Nat.le_of_ble_eq_true rfl) rfl (h_requireMotion g' (by omega) ?_)
      refine go_aload_n (y := mX10_leaning) (pc := 10) dX10_leaning_10 rfl rfl ?_
      refine go_getR (y := mX10_leaning) (pc := 11) dX10_leaning_11 fl_X10_47 rfl rfl (by decide) ?_
      refine go_getR (y := mX10_leaning) (pc := 14) dX10_leaning_14 fl_X10_191 (ch_sh h20 0 (by decide)) rfl (ch_z (r := 0) h20 (by decide)) ?_
      refine go_iload_n (y := mX10_leaning) (pc := 17) dX10_leaning_17 rfl rfl ?_
      refine go_iload_n (y := mX10_leaning) (pc := 18) dX10_leaning_18 rfl rfl ?_
      refine go_callV2 (y := mX10_leaning) (pc := 19) (y' := mX4_leaningOf) (kc2 := 0) (ks2 := 0) dX10_leaning_19 ml_X10_195 ok_X4_leaningOf (ch_sh h20 5 (by decide)) ⟨_, _, rfl⟩ (ch_z (r := 5) h20 (by decide)) ⟨rfl, rfl⟩ (by decide) (Nat.le_of_ble_eq_true rfl) rfl (c_leaningOf h20 (m := k) (q := j) (by omega) (by omega) (fun r19 => ?_))
      refine go_ireturn (y := mX10_leaning) (pc := 22) dX10_leaning_22 rfl ?_
      exact K k j rfl rfl (by omega) (by omega)
    · exact absurd g0' g'
  · exact absurd g0 g
set_option maxRecDepth 8000 in
set_option maxHeartbeats 4000000 in
theorem h_propose {m x : Int} (hm : rng m) (hx : rng x) {n : Nat} (hn : n < 8) (h1 : μ 62 1 = n) (h2 : 0 ≤ μ 62 2 ∧ μ 62 2 ≤ 8) (hS : wfS (su μ)) (hC : wfC (su μ) σ) (g0 : rfMo (su μ) σ m x = 0) {Q : Option Value → Mem → Prop} {X : String → Mem → Prop} (K : rfMo (su μ) σ m x = 0 → ∀ τ, eqC τ σ → Q (some (.int (iI (σ 5 0)))) (put 20 (amo (su μ) σ m x) (hst μ n τ))) : mt 276 7 0 0 mX10_propose [.ref 0, .int (iI m), .int (iI x)] Q X (put 20 σ μ) := by
  show go 276 7 0 0 mX10_propose Q X 0 [.ref 0, .int (iI m), .int (iI x)] [] _
  obtain ⟨n1, n12, c1, c4⟩ := wf_n hS
  obtain ⟨q0, q16, r0, r12⟩ := wf_r hS hC
  have h16 := q16
  have h11 := r0
  have h12 := r12
  have hSt : ∀ τ, wfS (su (hst μ n τ)) := fun τ => by rw [su_hst]; exact hS
  have hCt : ∀ τ, wfC (su (hst μ n τ)) σ := fun τ => by rw [su_hst]; exact hC
  by_cases g : rfMo (su μ) σ m x = 0
  · skip
    have g' := g
    unfold rfMo at g'
    have gm : 0 ≤ m ∧ m < su μ 0 7 := by
      by_cases g9 : 0 ≤ m ∧ m < su μ 0 7
      · exact g9
      · rw [if_neg g9] at g'; omega
    rw [if_pos gm] at g'
    have gx : 0 ≤ x ∧ x ≤ 20 ∧ σ 5 0 < 16 := by
      by_cases g9 : x < 0 ∨ 20 < x
      · rw [if_pos g9] at g'; omega
      · rw [if_neg g9] at g'
        by_cases g8 : 16 ≤ σ 5 0
        · rw [if_pos g8] at g'; omega
        · omega
    refine go_aload_n (y := mX10_propose) (pc := 0) dX10_propose_0 rfl rfl ?_
    refine go_getR (y := mX10_propose) (pc := 1) dX10_propose_1 fl_X10_47 rfl rfl (by decide) ?_
    refine go_iload_n (y := mX10_propose) (pc := 4) dX10_propose_4 rfl rfl ?_
    refine go_iload_n (y := mX10_propose) (pc := 5) dX10_propose_5 rfl rfl ?_
    refine go_callV2 (y := mX10_propose) (pc := 6) (y' := mX1_refusalOfMotion) (kc2 := 0) (ks2 := 0) dX10_propose_6 ml_X10_319 ok_X1_refusalOfMotion (ch_sh h20 0 (by decide)) ⟨_, _, rfl⟩ (ch_z (r := 0) h20 (by decide)) ⟨rfl, rfl⟩ (by decide) (Nat.le_of_ble_eq_true rfl) rfl (c_refusalOfMotion h20 (by omega) (by omega) (fun v6 e6 b6 => ?_))
    refine go_callS1 (y := mX10_propose) (pc := 9) (y' := mX10_throwIfRefused) (kc2 := 0) (ks2 := 0) dX10_propose_9 ml_X10_283 ok_X10_throwIfRefused rfl (by decide) (Nat.le_of_ble_eq_true rfl) rfl (h_tir (e6.trans g) ?_)
    refine go_aload_n (y := mX10_propose) (pc := 12) dX10_propose_12 rfl rfl ?_
    refine go_getR (y := mX10_propose) (pc := 13) dX10_propose_13 fl_X10_57 rfl rfl (by decide) ?_
    refine go_aload_n (y := mX10_propose) (pc := 16) dX10_propose_16 rfl rfl ?_
    refine go_getR (y := mX10_propose) (pc := 17) dX10_propose_17 fl_X10_47 rfl rfl (by decide) ?_
    refine go_callV1 (y := mX10_propose) (pc := 20) (y' := mX2_remember) (kc2 := 0) (ks2 := 0) dX10_propose_20 ml_X10_139 ok_X2_remember (show shp 62 = _ from rfl) ⟨_, _, rfl⟩ (by decide) rfl (by decide) (Nat.le_of_ble_eq_true rfl) rfl (g_remember hn h1 h2 (fun τ hτ => ?_))
    refine go_mem (show _ = put 20 σ (hst μ n τ) from rfl) ?_
    refine go_aload_n (y := mX10_propose) (pc := 23) dX10_propose_23 rfl rfl ?_
    refine go_getR (y := mX10_propose) (pc := 24) dX10_propose_24 fl_X10_47 rfl rfl (by decide) ?_
    refine go_iload_n (y := mX10_propose) (pc := 27) dX10_propose_27 rfl rfl ?_
    refine go_iload_n (y := mX10_propose) (pc := 28) dX10_propose_28 rfl rfl ?_
    refine go_callV2 (y := mX10_propose) (pc := 29) (y' := mX1_addMotion) (kc2 := 0) (ks2 := 0) dX10_propose_29 ml_X10_322 ok_X1_addMotion (ch_sh h20 0 (by decide)) ⟨_, _, rfl⟩ (ch_z (r := 0) h20 (by decide)) ⟨rfl, rfl⟩ (by decide) (Nat.le_of_ble_eq_true rfl) rfl (c_addMotion h20 (by omega) (by omega) (hSt _) (by omega) (by omega) ?_)
    refine go_ireturn (y := mX10_propose) (pc := 32) dX10_propose_32 rfl ?_
    rw [su_hst]
    exact K g τ hτ
  · exact absurd g0 g
set_option maxRecDepth 8000 in
set_option maxHeartbeats 4000000 in
theorem h_rebut {m h : Int} (hm : rng m) (hh : rng h) {n : Nat} (hn : n < 8) (h1 : μ 62 1 = n) (h2 : 0 ≤ μ 62 2 ∧ μ 62 2 ≤ 8) (hS : wfS (su μ)) (hC : wfC (su μ) σ) (g0 : rfRb (su μ) σ m h = 0) {Q : Option Value → Mem → Prop} {X : String → Mem → Prop} (K : ∀ k : Nat, h = k → (k : Int) < su μ 0 0 → rfRb (su μ) σ m h = 0 → ∀ τ, eqC τ σ → Q (some (.int (iI (frm (su μ) (reb σ k))))) (put 20 (reb σ k) (hst μ n τ))) : mt 276 7 0 0 mX10_rebut [.ref 0, .int (iI m), .int (iI h)] Q X (put 20 σ μ) := by
  show go 276 7 0 0 mX10_rebut Q X 0 [.ref 0, .int (iI m), .int (iI h)] [] _
  obtain ⟨n1, n12, c1, c4⟩ := wf_n hS
  obtain ⟨q0, q16, r0, r12⟩ := wf_r hS hC
  have h16 := q16
  have h11 := r0
  have h12 := r12
  have hSt : ∀ τ, wfS (su (hst μ n τ)) := fun τ => by rw [su_hst]; exact hS
  have hCt : ∀ τ, wfC (su (hst μ n τ)) σ := fun τ => by rw [su_hst]; exact hC
  by_cases g : rfRb (su μ) σ m h = 0
  · skip
    have g' := g
    unfold rfRb at g'
    have gm : (0 ≤ m ∧ m < su μ 0 7) ∧ (0 ≤ h ∧ h < su μ 0 0) := by
      by_cases g9 : (0 ≤ m ∧ m < su μ 0 7) ∧ (0 ≤ h ∧ h < su μ 0 0)
      · exact g9
      · rw [if_neg g9] at g'; omega
    rw [if_pos gm] at g'
    obtain ⟨k, rfl⟩ := Int.eq_ofNat_of_zero_le gm.2.1
    have gk := gm.2.2
    refine go_aload_n (y := mX10_rebut) (pc := 0) dX10_rebut_0 rfl rfl ?_
    refine go_getR (y := mX10_rebut) (pc := 1) dX10_rebut_1 fl_X10_47 rfl rfl (by decide) ?_
    refine go_iload_n (y := mX10_rebut) (pc := 4) dX10_rebut_4 rfl rfl ?_
    refine go_iload_n (y := mX10_rebut) (pc := 5) dX10_rebut_5 rfl rfl ?_
    refine go_callV2 (y := mX10_rebut) (pc := 6) (y' := mX1_refusalOfRebuttal) (kc2 := 0) (ks2 := 0) dX10_rebut_6 ml_X10_332 ok_X1_refusalOfRebuttal (ch_sh h20 0 (by decide)) ⟨_, _, rfl⟩ (ch_z (r := 0) h20 (by decide)) ⟨rfl, rfl⟩ (by decide) (Nat.le_of_ble_eq_true rfl) rfl (c_refusalOfRebuttal h20 (by omega) (by omega) hS hC (fun v6 e6 b6 => ?_))
    refine go_callS1 (y := mX10_rebut) (pc := 9) (y' := mX10_throwIfRefused) (kc2 := 0) (ks2 := 0) dX10_rebut_9 ml_X10_283 ok_X10_throwIfRefused rfl (by decide) (Nat.le_of_ble_eq_true rfl) rfl (h_tir (e6.trans g) ?_)
    refine go_aload_n (y := mX10_rebut) (pc := 12) dX10_rebut_12 rfl rfl ?_
    refine go_getR (y := mX10_rebut) (pc := 13) dX10_rebut_13 fl_X10_57 rfl rfl (by decide) ?_
    refine go_aload_n (y := mX10_rebut) (pc := 16) dX10_rebut_16 rfl rfl ?_
    refine go_getR (y := mX10_rebut) (pc := 17) dX10_rebut_17 fl_X10_47 rfl rfl (by decide) ?_
    refine go_callV1 (y := mX10_rebut) (pc := 20) (y' := mX2_remember) (kc2 := 0) (ks2 := 0) dX10_rebut_20 ml_X10_139 ok_X2_remember (show shp 62 = _ from rfl) ⟨_, _, rfl⟩ (by decide) rfl (by decide) (Nat.le_of_ble_eq_true rfl) rfl (g_remember hn h1 h2 (fun τ hτ => ?_))
    refine go_mem (show _ = put 20 σ (hst μ n τ) from rfl) ?_
    refine go_aload_n (y := mX10_rebut) (pc := 23) dX10_rebut_23 rfl rfl ?_
    refine go_getR (y := mX10_rebut) (pc := 24) dX10_rebut_24 fl_X10_47 rfl rfl (by decide) ?_
    refine go_iload_n (y := mX10_rebut) (pc := 27) dX10_rebut_27 rfl rfl ?_
    refine go_callV1 (y := mX10_rebut) (pc := 28) (y' := mX1_addRebuttal) (kc2 := 0) (ks2 := 0) dX10_rebut_28 ml_X10_335 ok_X1_addRebuttal (ch_sh h20 0 (by decide)) ⟨_, _, rfl⟩ (ch_z (r := 0) h20 (by decide)) rfl (by decide) (Nat.le_of_ble_eq_true rfl) rfl (c_addRebuttal h20 (h := k) (by omega) ?_)
    refine go_ireturn (y := mX10_rebut) (pc := 31) dX10_rebut_31 rfl ?_
    rw [su_hst]
    exact K k rfl (by omega) g τ hτ
  · exact absurd g0 g
set_option maxRecDepth 8000 in
set_option maxHeartbeats 4000000 in
theorem h_advance {m : Int} (hm : rng m) {n : Nat} (hn : n < 8) (h1 : μ 62 1 = n) (h2 : 0 ≤ μ 62 2 ∧ μ 62 2 ≤ 8) (hS : wfS (su μ)) (hC : wfC (su μ) σ) (g0 : rfWt σ m = 0) {Q : Option Value → Mem → Prop} {X : String → Mem → Prop} (K : ∀ k : Nat, m = k → k ≤ 60 → rfWt σ m = 0 → ∀ τ, eqC τ σ → Q (some (.int (iI ((pms (su μ) σ k).2)))) (put 20 ((pms (su μ) σ k).1) (hst μ n τ))) : mt 276 7 0 0 mX10_advance [.ref 0, .int (iI m)] Q X (put 20 σ μ) := by
  show go 276 7 0 0 mX10_advance Q X 0 [.ref 0, .int (iI m)] [] _
  obtain ⟨n1, n12, c1, c4⟩ := wf_n hS
  obtain ⟨q0, q16, r0, r12⟩ := wf_r hS hC
  have h16 := q16
  have h11 := r0
  have h12 := r12
  have hSt : ∀ τ, wfS (su (hst μ n τ)) := fun τ => by rw [su_hst]; exact hS
  have hCt : ∀ τ, wfC (su (hst μ n τ)) σ := fun τ => by rw [su_hst]; exact hC
  by_cases g : rfWt σ m = 0
  · skip
    have gm : 1 ≤ m ∧ m ≤ 60 := by
      have g' := g
      unfold rfWt at g'
      by_cases g9 : m < 1 ∨ 60 < m
      · rw [if_pos g9] at g'; omega
      · omega
    obtain ⟨k, rfl⟩ := Int.eq_ofNat_of_zero_le (show 0 ≤ m by omega)
    have gk := gm.2
    refine go_aload_n (y := mX10_advance) (pc := 0) dX10_advance_0 rfl rfl ?_
    refine go_getR (y := mX10_advance) (pc := 1) dX10_advance_1 fl_X10_47 rfl rfl (by decide) ?_
    refine go_iload_n (y := mX10_advance) (pc := 4) dX10_advance_4 rfl rfl ?_
    refine go_callV1 (y := mX10_advance) (pc := 5) (y' := mX1_refusalOfWait) (kc2 := 0) (ks2 := 0) dX10_advance_5 ml_X10_338 ok_X1_refusalOfWait (ch_sh h20 0 (by decide)) ⟨_, _, rfl⟩ (ch_z (r := 0) h20 (by decide)) rfl (by decide) (Nat.le_of_ble_eq_true rfl) rfl (c_refusalOfWait h20 (by omega) (fun v5 e5 b5 => ?_))
    refine go_callS1 (y := mX10_advance) (pc := 8) (y' := mX10_throwIfRefused) (kc2 := 0) (ks2 := 0) dX10_advance_8 ml_X10_283 ok_X10_throwIfRefused rfl (by decide) (Nat.le_of_ble_eq_true rfl) rfl (h_tir (e5.trans g) ?_)
    refine go_aload_n (y := mX10_advance) (pc := 11) dX10_advance_11 rfl rfl ?_
    refine go_getR (y := mX10_advance) (pc := 12) dX10_advance_12 fl_X10_57 rfl rfl (by decide) ?_
    refine go_aload_n (y := mX10_advance) (pc := 15) dX10_advance_15 rfl rfl ?_
    refine go_getR (y := mX10_advance) (pc := 16) dX10_advance_16 fl_X10_47 rfl rfl (by decide) ?_
    refine go_callV1 (y := mX10_advance) (pc := 19) (y' := mX2_remember) (kc2 := 0) (ks2 := 0) dX10_advance_19 ml_X10_139 ok_X2_remember (show shp 62 = _ from rfl) ⟨_, _, rfl⟩ (by decide) rfl (by decide) (Nat.le_of_ble_eq_true rfl) rfl (g_remember hn h1 h2 (fun τ hτ => ?_))
    refine go_mem (show _ = put 20 σ (hst μ n τ) from rfl) ?_
    refine go_aload_n (y := mX10_advance) (pc := 22) dX10_advance_22 rfl rfl ?_
    refine go_getR (y := mX10_advance) (pc := 23) dX10_advance_23 fl_X10_47 rfl rfl (by decide) ?_
    refine go_iload_n (y := mX10_advance) (pc := 26) dX10_advance_26 rfl rfl ?_
    refine go_callV1 (y := mX10_advance) (pc := 27) (y' := mX1_passMinutes) (kc2 := 0) (ks2 := 0) dX10_advance_27 ml_X10_341 ok_X1_passMinutes (ch_sh h20 0 (by decide)) ⟨_, _, rfl⟩ (ch_z (r := 0) h20 (by decide)) rfl (by decide) (Nat.le_of_ble_eq_true rfl) rfl (c_passMinutes h20 (hSt _) (hCt _) (n := k) (by omega) ?_)
    refine go_ireturn (y := mX10_advance) (pc := 30) dX10_advance_30 rfl ?_
    rw [su_hst]
    exact K k rfl (by omega) g τ hτ
  · exact absurd g0 g
set_option maxRecDepth 8000 in
set_option maxHeartbeats 4000000 in
theorem h_vote {m : Int} (hm : rng m) {n : Nat} (hn : n < 8) (h1 : μ 62 1 = n) (h2 : 0 ≤ μ 62 2 ∧ μ 62 2 ≤ 8) (hS : wfS (su μ)) (hC : wfC (su μ) σ) (g0 : rfVt (su μ) σ m = 0) {Q : Option Value → Mem → Prop} {X : String → Mem → Prop} (K : ∀ k : Nat, m = k → (k : Int) < σ 5 0 → rfVt (su μ) σ m = 0 → ∀ τ, eqC τ σ → Q (some (.int (iI (bI (0 < mgn (su μ) σ k))))) (put 20 (hvo (su μ) σ k) (hst μ n τ))) : mt 276 7 0 0 mX10_vote [.ref 0, .int (iI m)] Q X (put 20 σ μ) := by
  show go 276 7 0 0 mX10_vote Q X 0 [.ref 0, .int (iI m)] [] _
  obtain ⟨n1, n12, c1, c4⟩ := wf_n hS
  obtain ⟨q0, q16, r0, r12⟩ := wf_r hS hC
  have h16 := q16
  have h11 := r0
  have h12 := r12
  have hSt : ∀ τ, wfS (su (hst μ n τ)) := fun τ => by rw [su_hst]; exact hS
  have hCt : ∀ τ, wfC (su (hst μ n τ)) σ := fun τ => by rw [su_hst]; exact hC
  by_cases g : rfVt (su μ) σ m = 0
  · skip
    have g' := g
    unfold rfVt at g'
    have gm : 0 ≤ m ∧ m < σ 5 0 := by
      by_cases g9 : 0 ≤ m ∧ m < σ 5 0
      · exact g9
      · rw [if_neg g9] at g'; omega
    rw [if_pos gm] at g'
    obtain ⟨k, rfl⟩ := Int.eq_ofNat_of_zero_le gm.1
    have gk := gm.2
    refine go_aload_n (y := mX10_vote) (pc := 0) dX10_vote_0 rfl rfl ?_
    refine go_getR (y := mX10_vote) (pc := 1) dX10_vote_1 fl_X10_47 rfl rfl (by decide) ?_
    refine go_iload_n (y := mX10_vote) (pc := 4) dX10_vote_4 rfl rfl ?_
    refine go_callV1 (y := mX10_vote) (pc := 5) (y' := mX1_refusalOfVote) (kc2 := 0) (ks2 := 0) dX10_vote_5 ml_X10_344 ok_X1_refusalOfVote (ch_sh h20 0 (by decide)) ⟨_, _, rfl⟩ (ch_z (r := 0) h20 (by decide)) rfl (by decide) (Nat.le_of_ble_eq_true rfl) rfl (c_refusalOfVote h20 (by omega) hS h16 (fun v5 e5 b5 => ?_))
    refine go_callS1 (y := mX10_vote) (pc := 8) (y' := mX10_throwIfRefused) (kc2 := 0) (ks2 := 0) dX10_vote_8 ml_X10_283 ok_X10_throwIfRefused rfl (by decide) (Nat.le_of_ble_eq_true rfl) rfl (h_tir (e5.trans g) ?_)
    refine go_aload_n (y := mX10_vote) (pc := 11) dX10_vote_11 rfl rfl ?_
    refine go_getR (y := mX10_vote) (pc := 12) dX10_vote_12 fl_X10_57 rfl rfl (by decide) ?_
    refine go_aload_n (y := mX10_vote) (pc := 15) dX10_vote_15 rfl rfl ?_
    refine go_getR (y := mX10_vote) (pc := 16) dX10_vote_16 fl_X10_47 rfl rfl (by decide) ?_
    refine go_callV1 (y := mX10_vote) (pc := 19) (y' := mX2_remember) (kc2 := 0) (ks2 := 0) dX10_vote_19 ml_X10_139 ok_X2_remember (show shp 62 = _ from rfl) ⟨_, _, rfl⟩ (by decide) rfl (by decide) (Nat.le_of_ble_eq_true rfl) rfl (g_remember hn h1 h2 (fun τ hτ => ?_))
    refine go_mem (show _ = put 20 σ (hst μ n τ) from rfl) ?_
    refine go_aload_n (y := mX10_vote) (pc := 22) dX10_vote_22 rfl rfl ?_
    refine go_getR (y := mX10_vote) (pc := 23) dX10_vote_23 fl_X10_47 rfl rfl (by decide) ?_
    refine go_iload_n (y := mX10_vote) (pc := 26) dX10_vote_26 rfl rfl ?_
    refine go_callV1 (y := mX10_vote) (pc := 27) (y' := mX1_holdVote) (kc2 := 0) (ks2 := 0) dX10_vote_27 ml_X10_347 ok_X1_holdVote (ch_sh h20 0 (by decide)) ⟨_, _, rfl⟩ (ch_z (r := 0) h20 (by decide)) rfl (by decide) (Nat.le_of_ble_eq_true rfl) rfl (c_holdVote h20 (q := k) (by omega) (hSt _) (by omega) (by omega) ?_)
    refine go_zreturn (y := mX10_vote) (pc := 30) dX10_vote_30 rfl (bI_01 _) ?_
    rw [su_hst]
    exact K k rfl (by omega) g τ hτ
  · exact absurd g0 g
set_option maxRecDepth 8000 in
set_option maxHeartbeats 4000000 in
theorem h_withdraw {m : Int} (hm : rng m) {n : Nat} (hn : n < 8) (h1 : μ 62 1 = n) (h2 : 0 ≤ μ 62 2 ∧ μ 62 2 ≤ 8) (hS : wfS (su μ)) (hC : wfC (su μ) σ) (g0 : rfWd σ m = 0) {Q : Option Value → Mem → Prop} {X : String → Mem → Prop} (K : ∀ k : Nat, m = k → (k : Int) < σ 5 0 → rfWd σ m = 0 → ∀ τ, eqC τ σ → Q (some (.int (iI (σ 11 0 - clo σ k 3 11 0)))) (put 20 (clo σ k 3) (hst μ n τ))) : mt 276 7 0 0 mX10_withdraw [.ref 0, .int (iI m)] Q X (put 20 σ μ) := by
  show go 276 7 0 0 mX10_withdraw Q X 0 [.ref 0, .int (iI m)] [] _
  obtain ⟨n1, n12, c1, c4⟩ := wf_n hS
  obtain ⟨q0, q16, r0, r12⟩ := wf_r hS hC
  have h16 := q16
  have h11 := r0
  have h12 := r12
  have hSt : ∀ τ, wfS (su (hst μ n τ)) := fun τ => by rw [su_hst]; exact hS
  have hCt : ∀ τ, wfC (su (hst μ n τ)) σ := fun τ => by rw [su_hst]; exact hC
  by_cases g : rfWd σ m = 0
  · skip
    have g' := g
    unfold rfWd at g'
    have gm : 0 ≤ m ∧ m < σ 5 0 := by
      by_cases g9 : 0 ≤ m ∧ m < σ 5 0
      · exact g9
      · rw [if_neg g9] at g'; omega
    rw [if_pos gm] at g'
    obtain ⟨k, rfl⟩ := Int.eq_ofNat_of_zero_le gm.1
    have gk := gm.2
    refine go_aload_n (y := mX10_withdraw) (pc := 0) dX10_withdraw_0 rfl rfl ?_
    refine go_getR (y := mX10_withdraw) (pc := 1) dX10_withdraw_1 fl_X10_47 rfl rfl (by decide) ?_
    refine go_iload_n (y := mX10_withdraw) (pc := 4) dX10_withdraw_4 rfl rfl ?_
    refine go_callV1 (y := mX10_withdraw) (pc := 5) (y' := mX1_refusalOfWithdrawal) (kc2 := 0) (ks2 := 0) dX10_withdraw_5 ml_X10_350 ok_X1_refusalOfWithdrawal (ch_sh h20 0 (by decide)) ⟨_, _, rfl⟩ (ch_z (r := 0) h20 (by decide)) rfl (by decide) (Nat.le_of_ble_eq_true rfl) rfl (c_refusalOfWithdrawal h20 (by omega) h16 (fun v5 e5 b5 => ?_))
    refine go_callS1 (y := mX10_withdraw) (pc := 8) (y' := mX10_throwIfRefused) (kc2 := 0) (ks2 := 0) dX10_withdraw_8 ml_X10_283 ok_X10_throwIfRefused rfl (by decide) (Nat.le_of_ble_eq_true rfl) rfl (h_tir (e5.trans g) ?_)
    refine go_aload_n (y := mX10_withdraw) (pc := 11) dX10_withdraw_11 rfl rfl ?_
    refine go_getR (y := mX10_withdraw) (pc := 12) dX10_withdraw_12 fl_X10_57 rfl rfl (by decide) ?_
    refine go_aload_n (y := mX10_withdraw) (pc := 15) dX10_withdraw_15 rfl rfl ?_
    refine go_getR (y := mX10_withdraw) (pc := 16) dX10_withdraw_16 fl_X10_47 rfl rfl (by decide) ?_
    refine go_callV1 (y := mX10_withdraw) (pc := 19) (y' := mX2_remember) (kc2 := 0) (ks2 := 0) dX10_withdraw_19 ml_X10_139 ok_X2_remember (show shp 62 = _ from rfl) ⟨_, _, rfl⟩ (by decide) rfl (by decide) (Nat.le_of_ble_eq_true rfl) rfl (g_remember hn h1 h2 (fun τ hτ => ?_))
    refine go_mem (show _ = put 20 σ (hst μ n τ) from rfl) ?_
    refine go_aload_n (y := mX10_withdraw) (pc := 22) dX10_withdraw_22 rfl rfl ?_
    refine go_getR (y := mX10_withdraw) (pc := 23) dX10_withdraw_23 fl_X10_47 rfl rfl (by decide) ?_
    refine go_iload_n (y := mX10_withdraw) (pc := 26) dX10_withdraw_26 rfl rfl ?_
    refine go_iconst (y := mX10_withdraw) (pc := 27) dX10_withdraw_27 ?_
    refine go_callV2 (y := mX10_withdraw) (pc := 28) (y' := mX1_closeMotion) (kc2 := 0) (ks2 := 0) dX10_withdraw_28 ml_X10_353 ok_X1_closeMotion (ch_sh h20 0 (by decide)) ⟨_, _, rfl⟩ (ch_z (r := 0) h20 (by decide)) ⟨rfl, rfl⟩ (by decide) (Nat.le_of_ble_eq_true rfl) rfl (c_closeMotion h20 (q := k) (by omega) (by omega) (by omega) (by omega) ?_)
    refine go_ireturn (y := mX10_withdraw) (pc := 31) dX10_withdraw_31 rfl ?_
    exact K k rfl (by omega) g τ hτ
  · exact absurd g0 g
set_option maxRecDepth 8000 in
set_option maxHeartbeats 4000000 in
theorem h_sharpen {m : Int} (hm : rng m) {n : Nat} (hn : n < 8) (h1 : μ 62 1 = n) (h2 : 0 ≤ μ 62 2 ∧ μ 62 2 ≤ 8) (hS : wfS (su μ)) (hC : wfC (su μ) σ) (g0 : rfSh (su μ) σ m = 0) {Q : Option Value → Mem → Prop} {X : String → Mem → Prop} (K : ∀ k : Nat, m = k → (k : Int) < su μ 0 7 → rfSh (su μ) σ m = 0 → ∀ τ, eqC τ σ → Q (some (.int (iI (σ 2 k - 2)))) (put 20 (shp5 σ k) (hst μ n τ))) : mt 276 7 0 0 mX10_sharpen [.ref 0, .int (iI m)] Q X (put 20 σ μ) := by
  show go 276 7 0 0 mX10_sharpen Q X 0 [.ref 0, .int (iI m)] [] _
  obtain ⟨n1, n12, c1, c4⟩ := wf_n hS
  obtain ⟨q0, q16, r0, r12⟩ := wf_r hS hC
  have h16 := q16
  have h11 := r0
  have h12 := r12
  have hSt : ∀ τ, wfS (su (hst μ n τ)) := fun τ => by rw [su_hst]; exact hS
  have hCt : ∀ τ, wfC (su (hst μ n τ)) σ := fun τ => by rw [su_hst]; exact hC
  by_cases g : rfSh (su μ) σ m = 0
  · skip
    have g' := g
    unfold rfSh at g'
    have gm : 0 ≤ m ∧ m < su μ 0 7 := by
      by_cases g9 : 0 ≤ m ∧ m < su μ 0 7
      · exact g9
      · rw [if_neg g9] at g'; omega
    rw [if_pos gm] at g'
    obtain ⟨k, rfl⟩ := Int.eq_ofNat_of_zero_le gm.1
    have gk := gm.2
    have g2 : 2 ≤ σ 2 k := by
      by_cases g9 : σ 3 k = 5 ∨ σ 2 k < 2
      · rw [Int.toNat_natCast, if_pos g9] at g'; omega
      · omega
    refine go_aload_n (y := mX10_sharpen) (pc := 0) dX10_sharpen_0 rfl rfl ?_
    refine go_getR (y := mX10_sharpen) (pc := 1) dX10_sharpen_1 fl_X10_47 rfl rfl (by decide) ?_
    refine go_iload_n (y := mX10_sharpen) (pc := 4) dX10_sharpen_4 rfl rfl ?_
    refine go_callV1 (y := mX10_sharpen) (pc := 5) (y' := mX1_refusalOfSharpening) (kc2 := 0) (ks2 := 0) dX10_sharpen_5 ml_X10_356 ok_X1_refusalOfSharpening (ch_sh h20 0 (by decide)) ⟨_, _, rfl⟩ (ch_z (r := 0) h20 (by decide)) rfl (by decide) (Nat.le_of_ble_eq_true rfl) rfl (c_refusalOfSharpening h20 (by omega) (by omega) (fun v5 e5 b5 => ?_))
    refine go_callS1 (y := mX10_sharpen) (pc := 8) (y' := mX10_throwIfRefused) (kc2 := 0) (ks2 := 0) dX10_sharpen_8 ml_X10_283 ok_X10_throwIfRefused rfl (by decide) (Nat.le_of_ble_eq_true rfl) rfl (h_tir (e5.trans g) ?_)
    refine go_aload_n (y := mX10_sharpen) (pc := 11) dX10_sharpen_11 rfl rfl ?_
    refine go_getR (y := mX10_sharpen) (pc := 12) dX10_sharpen_12 fl_X10_57 rfl rfl (by decide) ?_
    refine go_aload_n (y := mX10_sharpen) (pc := 15) dX10_sharpen_15 rfl rfl ?_
    refine go_getR (y := mX10_sharpen) (pc := 16) dX10_sharpen_16 fl_X10_47 rfl rfl (by decide) ?_
    refine go_callV1 (y := mX10_sharpen) (pc := 19) (y' := mX2_remember) (kc2 := 0) (ks2 := 0) dX10_sharpen_19 ml_X10_139 ok_X2_remember (show shp 62 = _ from rfl) ⟨_, _, rfl⟩ (by decide) rfl (by decide) (Nat.le_of_ble_eq_true rfl) rfl (g_remember hn h1 h2 (fun τ hτ => ?_))
    refine go_mem (show _ = put 20 σ (hst μ n τ) from rfl) ?_
    refine go_aload_n (y := mX10_sharpen) (pc := 22) dX10_sharpen_22 rfl rfl ?_
    refine go_getR (y := mX10_sharpen) (pc := 23) dX10_sharpen_23 fl_X10_47 rfl rfl (by decide) ?_
    refine go_iload_n (y := mX10_sharpen) (pc := 26) dX10_sharpen_26 rfl rfl ?_
    refine go_callV1 (y := mX10_sharpen) (pc := 27) (y' := mX1_sharpenRazor) (kc2 := 0) (ks2 := 0) dX10_sharpen_27 ml_X10_359 ok_X1_sharpenRazor (ch_sh h20 0 (by decide)) ⟨_, _, rfl⟩ (ch_z (r := 0) h20 (by decide)) rfl (by decide) (Nat.le_of_ble_eq_true rfl) rfl (c_sharpenRazor h20 (m := k) (by omega) (by omega) ?_)
    refine go_ireturn (y := mX10_sharpen) (pc := 30) dX10_sharpen_30 rfl ?_
    exact K k rfl (by omega) g τ hτ
  · exact absurd g0 g
set_option maxRecDepth 8000 in
set_option maxHeartbeats 4000000 in
theorem h_request {m q f : Int} (hm : rng m) (hq : rng q) (hf : rng f) {n : Nat} (hn : n < 8) (h1 : μ 62 1 = n) (h2 : 0 ≤ μ 62 2 ∧ μ 62 2 ≤ 8) (hS : wfS (su μ)) (hC : wfC (su μ) σ) (g0 : rfRq (su μ) σ m q = 0) {Q : Option Value → Mem → Prop} {X : String → Mem → Prop} (K : ∀ k j : Nat, m = k → q = j → (k : Int) < su μ 0 7 → (j : Int) < σ 5 0 → rfRq (su μ) σ m q = 0 → ∀ τ, eqC τ σ → Q (some (.int (iI (σ 11 0)))) (put 20 (rad σ k j (if f = 0 then -1 else 1)) (hst μ n τ))) : mt 276 7 0 0 mX10_request [.ref 0, .int (iI m), .int (iI q), .int (iI f)] Q X (put 20 σ μ) := by
  show go 276 7 0 0 mX10_request Q X 0 [.ref 0, .int (iI m), .int (iI q), .int (iI f)] [] _
  obtain ⟨n1, n12, c1, c4⟩ := wf_n hS
  obtain ⟨q0, q16, r0, r12⟩ := wf_r hS hC
  have h16 := q16
  have h11 := r0
  have h12 := r12
  have hSt : ∀ τ, wfS (su (hst μ n τ)) := fun τ => by rw [su_hst]; exact hS
  have hCt : ∀ τ, wfC (su (hst μ n τ)) σ := fun τ => by rw [su_hst]; exact hC
  by_cases g : rfRq (su μ) σ m q = 0
  · skip
    have g' := g
    unfold rfRq at g'
    have gm : (0 ≤ m ∧ m < su μ 0 7) ∧ (0 ≤ q ∧ q < σ 5 0) := by
      by_cases g9 : (0 ≤ m ∧ m < su μ 0 7) ∧ (0 ≤ q ∧ q < σ 5 0)
      · exact g9
      · rw [if_neg g9] at g'; omega
    rw [if_pos gm] at g'
    have gp : plc σ m = -1 := by
      by_cases g9 : opn σ q ∧ plc σ m = -1 ∧ tkn σ m = -1
      · exact g9.2.1
      · rw [if_neg g9] at g'; omega
    obtain ⟨k, rfl⟩ := Int.eq_ofNat_of_zero_le gm.1.1
    obtain ⟨j, rfl⟩ := Int.eq_ofNat_of_zero_le gm.2.1
    have gk := gm.1.2
    have gj := gm.2.2
    have h1112 : σ 11 0 < 12 := by
      have w := (wf_rad (d := 1) hS hC gk gj (by omega) gp).1.2.2.2.1
      have e : rad σ k j 1 11 0 = σ 11 0 + 1 := wr_s _ _ _ _
      omega
    refine go_aload_n (y := mX10_request) (pc := 0) dX10_request_0 rfl rfl ?_
    refine go_getR (y := mX10_request) (pc := 1) dX10_request_1 fl_X10_47 rfl rfl (by decide) ?_
    refine go_iload_n (y := mX10_request) (pc := 4) dX10_request_4 rfl rfl ?_
    refine go_iload_n (y := mX10_request) (pc := 5) dX10_request_5 rfl rfl ?_
    refine go_callV2 (y := mX10_request) (pc := 6) (y' := mX1_refusalOfRequest) (kc2 := 0) (ks2 := 0) dX10_request_6 ml_X10_325 ok_X1_refusalOfRequest (ch_sh h20 0 (by decide)) ⟨_, _, rfl⟩ (ch_z (r := 0) h20 (by decide)) ⟨rfl, rfl⟩ (by decide) (Nat.le_of_ble_eq_true rfl) rfl (c_refusalOfRequest h20 (by omega) (by omega) h16 h11 h12 (fun v6 e6 b6 => ?_))
    refine go_callS1 (y := mX10_request) (pc := 9) (y' := mX10_throwIfRefused) (kc2 := 0) (ks2 := 0) dX10_request_9 ml_X10_283 ok_X10_throwIfRefused rfl (by decide) (Nat.le_of_ble_eq_true rfl) rfl (h_tir (e6.trans g) ?_)
    refine go_aload_n (y := mX10_request) (pc := 12) dX10_request_12 rfl rfl ?_
    refine go_getR (y := mX10_request) (pc := 13) dX10_request_13 fl_X10_57 rfl rfl (by decide) ?_
    refine go_aload_n (y := mX10_request) (pc := 16) dX10_request_16 rfl rfl ?_
    refine go_getR (y := mX10_request) (pc := 17) dX10_request_17 fl_X10_47 rfl rfl (by decide) ?_
    refine go_callV1 (y := mX10_request) (pc := 20) (y' := mX2_remember) (kc2 := 0) (ks2 := 0) dX10_request_20 ml_X10_139 ok_X2_remember (show shp 62 = _ from rfl) ⟨_, _, rfl⟩ (by decide) rfl (by decide) (Nat.le_of_ble_eq_true rfl) rfl (g_remember hn h1 h2 (fun τ hτ => ?_))
    refine go_mem (show _ = put 20 σ (hst μ n τ) from rfl) ?_
    refine go_aload_n (y := mX10_request) (pc := 23) dX10_request_23 rfl rfl ?_
    refine go_getR (y := mX10_request) (pc := 24) dX10_request_24 fl_X10_47 rfl rfl (by decide) ?_
    refine go_getR (y := mX10_request) (pc := 27) dX10_request_27 fl_X10_209 (ch_sh h20 0 (by decide)) rfl (ch_z (r := 0) h20 (by decide)) ?_
    refine go_iload_n (y := mX10_request) (pc := 30) dX10_request_30 rfl rfl ?_
    refine go_iload_n (y := mX10_request) (pc := 31) dX10_request_31 rfl rfl ?_
    refine go_iload_n (y := mX10_request) (pc := 32) dX10_request_32 rfl rfl ?_
    refine go_if_eq (y := mX10_request) (pc := 33) (tgt := 40) dX10_request_33 (by decide) (by omega) (fun h33 => ?_) (fun h33 => ?_)
    · skip
      rw [if_pos (by omega)] at K
      refine go_iconst (y := mX10_request) (pc := 40) dX10_request_40 ?_
      refine go_callV3 (y := mX10_request) (pc := 41) (y' := mX5_add) (kc2 := 0) (ks2 := 0) dX10_request_41 ml_X10_328 ok_X5_add (ch_sh h20 11 (by decide)) ⟨_, _, rfl⟩ (ch_z (r := 11) h20 (by decide)) ⟨rfl, rfl, rfl⟩ (by decide) (Nat.le_of_ble_eq_true rfl) rfl (c_add h20 (by omega) (by omega) (by omega) (by omega) (by omega) ?_)
      refine go_ireturn (y := mX10_request) (pc := 44) dX10_request_44 rfl ?_
      exact K k j rfl rfl gk gj g τ hτ
    · skip
      rw [if_neg (by omega)] at K
      refine go_iconst (y := mX10_request) (pc := 36) dX10_request_36 ?_
      refine go_goto (y := mX10_request) (pc := 37) (tgt := 41) dX10_request_37 (by decide) ?_
      refine go_callV3 (y := mX10_request) (pc := 41) (y' := mX5_add) (kc2 := 0) (ks2 := 0) dX10_request_41 ml_X10_328 ok_X5_add (ch_sh h20 11 (by decide)) ⟨_, _, rfl⟩ (ch_z (r := 11) h20 (by decide)) ⟨rfl, rfl, rfl⟩ (by decide) (Nat.le_of_ble_eq_true rfl) rfl (c_add h20 (by omega) (by omega) (by omega) (by omega) (by omega) ?_)
      refine go_ireturn (y := mX10_request) (pc := 44) dX10_request_44 rfl ?_
      exact K k j rfl rfl gk gj g τ hτ
  · exact absurd g0 g
set_option maxRecDepth 8000 in
set_option maxHeartbeats 4000000 in
theorem h_setRanking {m : Int} (hm : rng m) {n : Nat} (hn : n < 8) (h1 : μ 62 1 = n) (h2 : 0 ≤ μ 62 2 ∧ μ 62 2 ≤ 8) (hS : wfS (su μ)) (hC : wfC (su μ) σ) (g0 : rfRk m = 0) {Q : Option Value → Mem → Prop} {X : String → Mem → Prop} (K : rfRk m = 0 → ∀ τ, eqC τ σ → Q (some (.int (iI (σ 0 6)))) (put 20 (wr σ 0 6 m) (hst μ n τ))) : mt 276 7 0 0 mX10_setRanking [.ref 0, .int (iI m)] Q X (put 20 σ μ) := by
  show go 276 7 0 0 mX10_setRanking Q X 0 [.ref 0, .int (iI m), .null] [] _
  obtain ⟨n1, n12, c1, c4⟩ := wf_n hS
  obtain ⟨q0, q16, r0, r12⟩ := wf_r hS hC
  have h16 := q16
  have h11 := r0
  have h12 := r12
  have hSt : ∀ τ, wfS (su (hst μ n τ)) := fun τ => by rw [su_hst]; exact hS
  have hCt : ∀ τ, wfC (su (hst μ n τ)) σ := fun τ => by rw [su_hst]; exact hC
  by_cases g : rfRk m = 0
  · skip
    refine go_iload_n (y := mX10_setRanking) (pc := 0) dX10_setRanking_0 rfl rfl ?_
    refine go_callS1 (y := mX10_setRanking) (pc := 1) (y' := mX1_refusalOfRanking) (kc2 := 0) (ks2 := 0) dX10_setRanking_1 ml_X10_280 ok_X1_refusalOfRanking rfl (by decide) (Nat.le_of_ble_eq_true rfl) rfl (c_refusalOfRanking (by omega) (fun v1 e1 b1 => ?_))
    refine go_callS1 (y := mX10_setRanking) (pc := 4) (y' := mX10_throwIfRefused) (kc2 := 0) (ks2 := 0) dX10_setRanking_4 ml_X10_283 ok_X10_throwIfRefused rfl (by decide) (Nat.le_of_ble_eq_true rfl) rfl (h_tir (e1.trans g) ?_)
    refine go_aload_n (y := mX10_setRanking) (pc := 7) dX10_setRanking_7 rfl rfl ?_
    refine go_getR (y := mX10_setRanking) (pc := 8) dX10_setRanking_8 fl_X10_57 rfl rfl (by decide) ?_
    refine go_aload_n (y := mX10_setRanking) (pc := 11) dX10_setRanking_11 rfl rfl ?_
    refine go_getR (y := mX10_setRanking) (pc := 12) dX10_setRanking_12 fl_X10_47 rfl rfl (by decide) ?_
    refine go_callV1 (y := mX10_setRanking) (pc := 15) (y' := mX2_remember) (kc2 := 0) (ks2 := 0) dX10_setRanking_15 ml_X10_139 ok_X2_remember (show shp 62 = _ from rfl) ⟨_, _, rfl⟩ (by decide) rfl (by decide) (Nat.le_of_ble_eq_true rfl) rfl (g_remember hn h1 h2 (fun τ hτ => ?_))
    refine go_mem (show _ = put 20 σ (hst μ n τ) from rfl) ?_
    refine go_aload_n (y := mX10_setRanking) (pc := 18) dX10_setRanking_18 rfl rfl ?_
    refine go_getR (y := mX10_setRanking) (pc := 19) dX10_setRanking_19 fl_X10_47 rfl rfl (by decide) ?_
    refine go_cget (y := mX10_setRanking) (pc := 22) (r := 0) dX10_setRanking_22 fl_X10_252 h20 (by decide) rfl rfl (by decide) (fun r22 => ?_)
    refine go_istore_n (y := mX10_setRanking) (pc := 25) dX10_setRanking_25 rfl (by decide) ?_
    refine go_aload_n (y := mX10_setRanking) (pc := 26) dX10_setRanking_26 rfl rfl ?_
    refine go_getR (y := mX10_setRanking) (pc := 27) dX10_setRanking_27 fl_X10_47 rfl rfl (by decide) ?_
    refine go_iload_n (y := mX10_setRanking) (pc := 30) dX10_setRanking_30 rfl rfl ?_
    refine go_cput (y := mX10_setRanking) (pc := 31) (r := 0) dX10_setRanking_31 fp_X10_252 h20 (by decide) rfl rfl (by decide) (by omega) ?_
    refine go_iload_n (y := mX10_setRanking) (pc := 34) dX10_setRanking_34 rfl rfl ?_
    refine go_ireturn (y := mX10_setRanking) (pc := 35) dX10_setRanking_35 rfl ?_
    exact K g τ hτ
  · exact absurd g0 g
set_option maxRecDepth 8000 in
set_option maxHeartbeats 4000000 in
theorem h_undo {n : Nat} (hn : n < 8) (h1 : μ 62 1 = n) (h2 : 0 ≤ μ 62 2 ∧ μ 62 2 ≤ 8) (hS : wfS (su μ)) (hC : wfC (su μ) σ) (hge : 1 ≤ μ 62 2) {Q : Option Value → Mem → Prop} {X : String → Mem → Prop} (K : ∀ k : Nat, (k : Int) = (if 0 < n then (n : Int) - 1 else 7) → ∀ τ, eqC τ (vw (64 + 21 * k) μ) → Q (some (.int (iI (μ 62 2 - 1)))) (put 20 τ (wr (wr μ 62 1 k) 62 2 (μ 62 2 - 1)))) : mt 276 7 0 0 mX10_undo [.ref 0] Q X (put 20 σ μ) := by
  show go 276 7 0 0 mX10_undo Q X 0 [.ref 0] [] _
  obtain ⟨k, hk⟩ : ∃ k : Nat, (k : Int) = (if 0 < n then (n : Int) - 1 else 7) := by
    by_cases g : 0 < n
    · exact ⟨n - 1, by rw [if_pos g]; omega⟩
    · exact ⟨7, by rw [if_neg g]; omega⟩
  refine go_aload_n (y := mX10_undo) (pc := 0) dX10_undo_0 rfl rfl ?_
  refine go_getR (y := mX10_undo) (pc := 1) dX10_undo_1 fl_X10_57 rfl rfl (by decide) ?_
  refine go_bget (y := mX10_undo) (pc := 4) dX10_undo_4 fl_X10_397 rfl rfl (by decide) (by decide) (fun r4 => ?_)
  refine go_if_ne (y := mX10_undo) (pc := 7) (tgt := 21) dX10_undo_7 (by decide) (by omega) (fun h7 => ?_) (fun h7 => ?_)
  · skip
    refine go_aload_n (y := mX10_undo) (pc := 21) dX10_undo_21 rfl rfl ?_
    refine go_getR (y := mX10_undo) (pc := 22) dX10_undo_22 fl_X10_57 rfl rfl (by decide) ?_
    refine go_aload_n (y := mX10_undo) (pc := 25) dX10_undo_25 rfl rfl ?_
    refine go_getR (y := mX10_undo) (pc := 26) dX10_undo_26 fl_X10_47 rfl rfl (by decide) ?_
    refine go_callV1 (y := mX10_undo) (pc := 29) (y' := mX2_stepBack) (kc2 := 0) (ks2 := 0) dX10_undo_29 ml_X10_400 ok_X2_stepBack (show shp 62 = _ from rfl) ⟨_, _, rfl⟩ (by decide) rfl (by decide) (Nat.le_of_ble_eq_true rfl) rfl (g_stepBack hn h1 (by omega) hk (fun τ hτ => ?_))
    refine go_aload_n (y := mX10_undo) (pc := 32) dX10_undo_32 rfl rfl ?_
    refine go_getR (y := mX10_undo) (pc := 33) dX10_undo_33 fl_X10_57 rfl rfl (by decide) ?_
    refine go_bget (y := mX10_undo) (pc := 36) dX10_undo_36 fl_X10_397 rfl rfl (by decide) (by decide) (fun r36 => ?_)
    refine go_top (b := μ 62 2 - 1) ((wr_s _ _ _ _)) (fun t36 => ?_)
    refine go_ireturn (y := mX10_undo) (pc := 39) dX10_undo_39 rfl ?_
    exact K k hk τ hτ
  · skip
    exact absurd h7 (by omega)
set_option maxRecDepth 8000 in
set_option maxHeartbeats 4000000 in
theorem h_speechMotion {m : Int} (hm : rng m) (hS : wfS (su μ)) (hC : wfC (su μ) σ) (g0 : 0 ≤ m ∧ m < su μ 0 0) (g9 : ∀ k : Nat, m = k → σ 16 k ≠ -1) {Q : Option Value → Mem → Prop} {X : String → Mem → Prop} (K : ∀ k : Nat, m = k → (k : Int) < su μ 0 0 → σ 16 k ≠ -1 → Q (some (.int (iI (σ 17 k)))) (put 20 σ μ)) : mt 276 7 0 0 mX10_speechMotion [.ref 0, .int (iI m)] Q X (put 20 σ μ) := by
  show go 276 7 0 0 mX10_speechMotion Q X 0 [.ref 0, .int (iI m)] [] _
  have c4 : su μ 0 0 ≤ 4 := hS.2.1
  by_cases g : 0 ≤ m ∧ m < su μ 0 0
  · obtain ⟨k, rfl⟩ := Int.eq_ofNat_of_zero_le g.1
    have g2 := g.2
    refine go_aload_n (y := mX10_speechMotion) (pc := 0) dX10_speechMotion_0 rfl rfl ?_
    refine go_iload_n (y := mX10_speechMotion) (pc := 1) dX10_speechMotion_1 rfl rfl ?_
    refine go_callV1 (y := mX10_speechMotion) (pc := 2) (y' := mX10_requireChair) (kc2 := 0) (ks2 := 0) dX10_speechMotion_2 ml_X10_256 ok_X10_requireChair (show shp 0 = _ from rfl) ⟨_, _, rfl⟩ (by decide) rfl (by decide) (Nat.le_of_ble_eq_true rfl) rfl (h_requireChair g (by omega) ?_)
    refine go_aload_n (y := mX10_speechMotion) (pc := 5) dX10_speechMotion_5 rfl rfl ?_
    refine go_getR (y := mX10_speechMotion) (pc := 6) dX10_speechMotion_6 fl_X10_47 rfl rfl (by decide) ?_
    refine go_getR (y := mX10_speechMotion) (pc := 9) dX10_speechMotion_9 fl_X10_200 (ch_sh h20 0 (by decide)) rfl (ch_z (r := 0) h20 (by decide)) ?_
    refine go_iload_n (y := mX10_speechMotion) (pc := 12) dX10_speechMotion_12 rfl rfl ?_
    refine go_callV1 (y := mX10_speechMotion) (pc := 13) (y' := mX0_isFree) (kc2 := 0) (ks2 := 0) dX10_speechMotion_13 ml_X10_262 ok_X0_isFree (ch_sh h20 15 (by decide)) ⟨_, _, rfl⟩ (ch_z (r := 15) h20 (by decide)) rfl (by decide) (Nat.le_of_ble_eq_true rfl) rfl (c_isFree h20 (h := k) (by omega) (fun v13 e13 b13 => ?_))
    refine go_if_eq (y := mX10_speechMotion) (pc := 16) (tgt := 30) dX10_speechMotion_16 (by decide) (by omega) (fun h16 => ?_) (fun h16 => ?_)
    · skip
      refine go_aload_n (y := mX10_speechMotion) (pc := 30) dX10_speechMotion_30 rfl rfl ?_
      refine go_getR (y := mX10_speechMotion) (pc := 31) dX10_speechMotion_31 fl_X10_47 rfl rfl (by decide) ?_
      refine go_getR (y := mX10_speechMotion) (pc := 34) dX10_speechMotion_34 fl_X10_200 (ch_sh h20 0 (by decide)) rfl (ch_z (r := 0) h20 (by decide)) ?_
      refine go_getR (y := mX10_speechMotion) (pc := 37) dX10_speechMotion_37 fl_X10_271 (ch_sh h20 15 (by decide)) rfl (ch_z (r := 15) h20 (by decide)) ?_
      refine go_iload_n (y := mX10_speechMotion) (pc := 40) dX10_speechMotion_40 rfl rfl ?_
      refine go_cial (y := mX10_speechMotion) (pc := 41) (r := 17) (k := k) dX10_speechMotion_41 h20 (by decide) rfl (by decide) rfl (by omega) (by decide) (fun r41 => ?_)
      refine go_ireturn (y := mX10_speechMotion) (pc := 42) dX10_speechMotion_42 rfl ?_
      exact K k rfl (by omega) (bI_0 e13 h16)
    · skip
      exact absurd (bI_1 e13 h16) (g9 k rfl)
  · exact absurd g0 g
set_option maxRecDepth 8000 in
set_option maxHeartbeats 4000000 in
theorem h_meanLeaning {m : Int} (hm : rng m) (hS : wfS (su μ)) (hC : wfC (su μ) σ) (g0 : 0 ≤ m ∧ m < σ 5 0) {Q : Option Value → Mem → Prop} {X : String → Mem → Prop} (K : ∀ k : Nat, m = k → (k : Int) < σ 5 0 → Q (some (.double (mnl (su μ) σ k))) (put 20 σ μ)) : mt 276 7 0 0 mX10_meanLeaning [.ref 0, .int (iI m)] Q X (put 20 σ μ) := by
  show go 276 7 0 0 mX10_meanLeaning Q X 0 [.ref 0, .int (iI m), .null, .null] [] _
  obtain ⟨n1, n12, c1, c4⟩ := wf_n hS
  obtain ⟨q0, q16, r0, r12⟩ := wf_r hS hC
  by_cases g : 0 ≤ m ∧ m < σ 5 0
  · obtain ⟨q, rfl⟩ := Int.eq_ofNat_of_zero_le g.1
    have g2 := g.2
    have loop : ∀ (n k : Nat), (k : Int) + n = su μ 0 7 → go 276 7 0 0 mX10_meanLeaning Q X 9 [.ref 0, .int (iI (q : Nat)), .int (iI (smf (fun m => ln σ m q) k)), .int (iI (k : Nat))] [] (put 20 σ μ) := by
      intro n
      induction n using Nat.strongRecOn with
      | _ n ih =>
        intro k hk
        refine go_iload_n (y := mX10_meanLeaning) (pc := 9) dX10_meanLeaning_9 rfl rfl ?_
        refine go_aload_n (y := mX10_meanLeaning) (pc := 10) dX10_meanLeaning_10 rfl rfl ?_
        refine go_getR (y := mX10_meanLeaning) (pc := 11) dX10_meanLeaning_11 fl_X10_35 rfl rfl (by decide) ?_
        refine go_sget (y := mX10_meanLeaning) (pc := 14) (r := 0) dX10_meanLeaning_14 fl_X10_156 h20 (by decide) rfl rfl (by decide) (fun r14 => ?_)
        refine go_top (b := su μ 0 7) (rfl) (fun t14 => ?_)
        refine go_icmp_ge (y := mX10_meanLeaning) (pc := 17) (tgt := 41) dX10_meanLeaning_17 (by decide) (by omega) (by omega) (fun h17 => ?_) (fun h17 => ?_)
        · skip
          refine go_iload_n (y := mX10_meanLeaning) (pc := 41) dX10_meanLeaning_41 rfl rfl ?_
          refine go_i2d (y := mX10_meanLeaning) (pc := 42) dX10_meanLeaning_42 ?_
          refine go_iconst (y := mX10_meanLeaning) (pc := 43) dX10_meanLeaning_43 ?_
          refine go_aload_n (y := mX10_meanLeaning) (pc := 44) dX10_meanLeaning_44 rfl rfl ?_
          refine go_getR (y := mX10_meanLeaning) (pc := 45) dX10_meanLeaning_45 fl_X10_35 rfl rfl (by decide) ?_
          refine go_sget (y := mX10_meanLeaning) (pc := 48) (r := 0) dX10_meanLeaning_48 fl_X10_156 h20 (by decide) rfl rfl (by decide) (fun r48 => ?_)
          refine go_top (b := su μ 0 7) (rfl) (fun t48 => ?_)
          refine go_mmax (y := mX10_meanLeaning) (pc := 51) dX10_meanLeaning_51 ml_X10_301 (by decide) (Nat.le_of_ble_eq_true rfl) ⟨by omega, by omega⟩ ⟨by omega, by omega⟩ ?_
          refine go_top (b := su μ 0 7) ((by omega)) (fun t51 => ?_)
          refine go_i2d (y := mX10_meanLeaning) (pc := 54) dX10_meanLeaning_54 ?_
          refine go_ddiv (y := mX10_meanLeaning) (pc := 55) dX10_meanLeaning_55 (by rw [show k = (su μ 0 7).toNat by omega]; exact mnl_b hS hC g2) ?_
          refine go_dreturn (y := mX10_meanLeaning) (pc := 56) dX10_meanLeaning_56 rfl ?_
          obtain rfl : k = (su μ 0 7).toNat := by omega
          exact K q rfl g2
        · skip
          refine go_iload_n (y := mX10_meanLeaning) (pc := 20) dX10_meanLeaning_20 rfl rfl ?_
          refine go_aload_n (y := mX10_meanLeaning) (pc := 21) dX10_meanLeaning_21 rfl rfl ?_
          refine go_getR (y := mX10_meanLeaning) (pc := 22) dX10_meanLeaning_22 fl_X10_47 rfl rfl (by decide) ?_
          refine go_getR (y := mX10_meanLeaning) (pc := 25) dX10_meanLeaning_25 fl_X10_191 (ch_sh h20 0 (by decide)) rfl (ch_z (r := 0) h20 (by decide)) ?_
          refine go_iload_n (y := mX10_meanLeaning) (pc := 28) dX10_meanLeaning_28 rfl rfl ?_
          refine go_iload_n (y := mX10_meanLeaning) (pc := 29) dX10_meanLeaning_29 rfl rfl ?_
          refine go_callV2 (y := mX10_meanLeaning) (pc := 30) (y' := mX4_leaningOf) (kc2 := 0) (ks2 := 0) dX10_meanLeaning_30 ml_X10_195 ok_X4_leaningOf (ch_sh h20 5 (by decide)) ⟨_, _, rfl⟩ (ch_z (r := 5) h20 (by decide)) ⟨rfl, rfl⟩ (by decide) (Nat.le_of_ble_eq_true rfl) rfl (c_leaningOf h20 (m := k) (q := q) (by omega) (by omega) (fun r30 => ?_))
          refine go_iadd (y := mX10_meanLeaning) (pc := 33) dX10_meanLeaning_33 ?_
          refine go_top (b := smf (fun m => ln σ m q) (k + 1)) (rfl) (fun t33 => ?_)
          refine go_istore_n (y := mX10_meanLeaning) (pc := 34) dX10_meanLeaning_34 rfl (by decide) ?_
          refine go_iinc (y := mX10_meanLeaning) (pc := 35) dX10_meanLeaning_35 rfl (by decide) ?_
          refine go_goto (y := mX10_meanLeaning) (pc := 38) (tgt := 9) dX10_meanLeaning_38 (by decide) ?_
          exact ih (n - 1) (by omega) (k + 1) (by omega)
    refine go_aload_n (y := mX10_meanLeaning) (pc := 0) dX10_meanLeaning_0 rfl rfl ?_
    refine go_iload_n (y := mX10_meanLeaning) (pc := 1) dX10_meanLeaning_1 rfl rfl ?_
    refine go_callV1 (y := mX10_meanLeaning) (pc := 2) (y' := mX10_requireMotion) (kc2 := 0) (ks2 := 0) dX10_meanLeaning_2 ml_X10_188 ok_X10_requireMotion (show shp 0 = _ from rfl) ⟨_, _, rfl⟩ (by decide) rfl (by decide) (Nat.le_of_ble_eq_true rfl) rfl (h_requireMotion g (by omega) ?_)
    refine go_iconst (y := mX10_meanLeaning) (pc := 5) dX10_meanLeaning_5 ?_
    refine go_istore_n (y := mX10_meanLeaning) (pc := 6) dX10_meanLeaning_6 rfl (by decide) ?_
    refine go_iconst (y := mX10_meanLeaning) (pc := 7) dX10_meanLeaning_7 ?_
    refine go_istore_n (y := mX10_meanLeaning) (pc := 8) dX10_meanLeaning_8 rfl (by decide) ?_
    exact loop (su μ 0 7).toNat 0 (by omega)
  · exact absurd g0 g
set_option maxRecDepth 8000 in
set_option maxHeartbeats 4000000 in
theorem h_weightShare {m : Int} (hm : rng m) (hS : wfS (su μ)) (hC : wfC (su μ) σ) (g0 : 0 ≤ m ∧ m < su μ 0 7) {Q : Option Value → Mem → Prop} {X : String → Mem → Prop} (K : ∀ k : Nat, m = k → (k : Int) < su μ 0 7 → Q (some (.float (wsh (su μ) k))) (put 20 σ μ)) : mt 276 7 0 0 mX10_weightShare [.ref 0, .int (iI m)] Q X (put 20 σ μ) := by
  show go 276 7 0 0 mX10_weightShare Q X 0 [.ref 0, .int (iI m)] [] _
  obtain ⟨n1, n12, c1, c4⟩ := wf_n hS
  by_cases g : 0 ≤ m ∧ m < su μ 0 7
  · obtain ⟨k, rfl⟩ := Int.eq_ofNat_of_zero_le g.1
    have g2 := g.2
    obtain ⟨b1, b2, b3⟩ := wsh_b hS g2
    have b4 := smf_bd (f := fun m => su μ 2 m) (b := 9) (n := (su μ 0 7).toNat) (fun k hk => by have := wf_m hS k (by omega); omega)
    refine go_aload_n (y := mX10_weightShare) (pc := 0) dX10_weightShare_0 rfl rfl ?_
    refine go_iload_n (y := mX10_weightShare) (pc := 1) dX10_weightShare_1 rfl rfl ?_
    refine go_callV1 (y := mX10_weightShare) (pc := 2) (y' := mX10_requireMember) (kc2 := 0) (ks2 := 0) dX10_weightShare_2 ml_X10_166 ok_X10_requireMember (show shp 0 = _ from rfl) ⟨_, _, rfl⟩ (by decide) rfl (by decide) (Nat.le_of_ble_eq_true rfl) rfl (h_requireMember g (by omega) ?_)
    refine go_aload_n (y := mX10_weightShare) (pc := 5) dX10_weightShare_5 rfl rfl ?_
    refine go_getR (y := mX10_weightShare) (pc := 6) dX10_weightShare_6 fl_X10_35 rfl rfl (by decide) ?_
    refine go_getR (y := mX10_weightShare) (pc := 9) dX10_weightShare_9 fl_X10_169 rfl rfl (by decide) ?_
    refine go_iload_n (y := mX10_weightShare) (pc := 12) dX10_weightShare_12 rfl rfl ?_
    refine go_sial (y := mX10_weightShare) (pc := 13) (r := 2) (k := k) dX10_weightShare_13 h20 (by decide) rfl (by decide) rfl (by omega) (by decide) (fun r13 => ?_)
    refine go_top (b := su μ 2 k) (rfl) (fun t13 => ?_)
    refine go_i2f (y := mX10_weightShare) (pc := 14) dX10_weightShare_14 ?_
    refine go_iconst (y := mX10_weightShare) (pc := 15) dX10_weightShare_15 ?_
    refine go_aload_n (y := mX10_weightShare) (pc := 16) dX10_weightShare_16 rfl rfl ?_
    refine go_getR (y := mX10_weightShare) (pc := 17) dX10_weightShare_17 fl_X10_35 rfl rfl (by decide) ?_
    refine go_callV0 (y := mX10_weightShare) (pc := 20) (y' := mX7_totalWeight) (kc2 := 0) (ks2 := 0) dX10_weightShare_20 ml_X10_306 ok_X7_totalWeight (show shp 10 = _ from rfl) ⟨_, _, rfl⟩ (by decide) trivial (by decide) (Nat.le_of_ble_eq_true rfl) rfl (s_totalWeight h20 (by omega) (by omega) ?_)
    refine go_mmax (y := mX10_weightShare) (pc := 23) dX10_weightShare_23 ml_X10_301 (by decide) (Nat.le_of_ble_eq_true rfl) ⟨by omega, by omega⟩ ⟨by omega, by omega⟩ ?_
    refine go_top (b := smf (fun m => su μ 2 m) (su μ 0 7).toNat) ((by omega)) (fun t23 => ?_)
    refine go_i2f (y := mX10_weightShare) (pc := 26) dX10_weightShare_26 ?_
    refine go_fdiv (y := mX10_weightShare) (pc := 27) dX10_weightShare_27 b1 ?_
    refine go_freturn (y := mX10_weightShare) (pc := 28) dX10_weightShare_28 rfl ?_
    exact K k rfl g2
  · exact absurd g0 g
set_option maxRecDepth 8000 in
set_option maxHeartbeats 4000000 in
theorem h_latherAfter {q m : Int} (hq : rng q) (hm : rng m) (hS : wfS (su μ)) (hC : wfC (su μ) σ) (g0 : 0 ≤ q ∧ q < σ 5 0) (g0' : 0 ≤ m ∧ m ≤ 300) {Q : Option Value → Mem → Prop} {X : String → Mem → Prop} (K : ∀ k n : Nat, q = k → m = n → (k : Int) < σ 5 0 → n ≤ 300 → ∀ τ τ', eqC τ σ → Q (some (.int (iI ((pms (su μ) τ n).1 8 k)))) (put 20 σ (put 41 τ' μ))) : mt 276 7 0 0 mX10_latherAfter [.ref 0, .int (iI q), .int (iI m)] Q X (put 20 σ μ) := by
  show go 276 7 0 0 mX10_latherAfter Q X 0 [.ref 0, .int (iI q), .int (iI m), .null] [] _
  have h16 := hC.1.2.1
  by_cases g : 0 ≤ q ∧ q < σ 5 0
  · obtain ⟨k, rfl⟩ := Int.eq_ofNat_of_zero_le g.1
    have gk := g.2
    by_cases g' : 0 ≤ m ∧ m ≤ 300
    · obtain ⟨n, rfl⟩ := Int.eq_ofNat_of_zero_le g'.1
      have gn := g'.2
      have eS : su (put 20 σ μ) = su μ := su_put (by decide)
      have hSM : wfS (su (put 20 σ μ)) := by rw [eS]; exact hS
      have loop : ∀ τ, eqC τ σ → ∀ (j p : Nat), p + j = n → go 276 7 0 0 mX10_latherAfter Q X 40 [.ref 0, .int (iI (k : Nat)), .int (iI (n : Nat)), .int (iI (p : Nat))] [] (put 41 (pms (su (put 20 σ μ)) τ p).1 (put 20 σ μ)) := by
        intro τ hτ j
        have hτC : wfC (su (put 20 σ μ)) τ := by rw [eS]; exact wf_eq hS hC hτ
        induction j using Nat.strongRecOn with
        | _ j ih =>
          intro p hp
          have ih' := ih (j - 1)
          refine go_iload_n (y := mX10_latherAfter) (pc := 40) dX10_latherAfter_40 rfl rfl ?_
          refine go_iload_n (y := mX10_latherAfter) (pc := 41) dX10_latherAfter_41 rfl rfl ?_
          refine go_icmp_ge (y := mX10_latherAfter) (pc := 42) (tgt := 59) dX10_latherAfter_42 (by decide) (by omega) (by omega) (fun h42 => ?_) (fun h42 => ?_)
          · skip
            refine go_aload_n (y := mX10_latherAfter) (pc := 59) dX10_latherAfter_59 rfl rfl ?_
            refine go_getR (y := mX10_latherAfter) (pc := 60) dX10_latherAfter_60 fl_X10_51 rfl rfl (by decide) ?_
            refine go_getR (y := mX10_latherAfter) (pc := 63) dX10_latherAfter_63 fl_X10_191 (ch_sh h41 0 (by decide)) rfl (ch_z (r := 0) h41 (by decide)) ?_
            refine go_getR (y := mX10_latherAfter) (pc := 66) dX10_latherAfter_66 fl_X10_225 (ch_sh h41 5 (by decide)) rfl (ch_z (r := 5) h41 (by decide)) ?_
            refine go_iload_n (y := mX10_latherAfter) (pc := 69) dX10_latherAfter_69 rfl rfl ?_
            refine go_cial (y := mX10_latherAfter) (pc := 70) (r := 8) (k := k) dX10_latherAfter_70 h41 (by decide) rfl (by decide) rfl (by omega) (by decide) (fun r70 => ?_)
            refine go_ireturn (y := mX10_latherAfter) (pc := 71) dX10_latherAfter_71 rfl ?_
            have e : p = n := by omega
            subst e
            rw [put_c (by decide), eS]
            exact K k p rfl rfl gk (by omega) τ _ hτ
          · skip
            refine go_aload_n (y := mX10_latherAfter) (pc := 45) dX10_latherAfter_45 rfl rfl ?_
            refine go_getR (y := mX10_latherAfter) (pc := 46) dX10_latherAfter_46 fl_X10_51 rfl rfl (by decide) ?_
            refine go_callV0 (y := mX10_latherAfter) (pc := 49) (y' := mX1_passMinute) (kc2 := 0) (ks2 := 0) dX10_latherAfter_49 ml_X10_314 ok_X1_passMinute (ch_sh h41 0 (by decide)) ⟨_, _, rfl⟩ (ch_z (r := 0) h41 (by decide)) trivial (by decide) (Nat.le_of_ble_eq_true rfl) rfl (c_passMinute h41 hSM (wf_pms hSM hτC p).1 ?_)
            refine go_pop (y := mX10_latherAfter) (pc := 52) dX10_latherAfter_52 rfl ?_
            refine go_iinc (y := mX10_latherAfter) (pc := 53) dX10_latherAfter_53 rfl (by decide) ?_
            refine go_goto (y := mX10_latherAfter) (pc := 56) (tgt := 40) dX10_latherAfter_56 (by decide) ?_
            exact ih' (by omega) (p + 1) (by omega)
      refine go_aload_n (y := mX10_latherAfter) (pc := 0) dX10_latherAfter_0 rfl rfl ?_
      refine go_iload_n (y := mX10_latherAfter) (pc := 1) dX10_latherAfter_1 rfl rfl ?_
      refine go_callV1 (y := mX10_latherAfter) (pc := 2) (y' := mX10_requireMotion) (kc2 := 0) (ks2 := 0) dX10_latherAfter_2 ml_X10_188 ok_X10_requireMotion (show shp 0 = _ from rfl) ⟨_, _, rfl⟩ (by decide) rfl (by decide) (Nat.le_of_ble_eq_true rfl) rfl (h_requireMotion g (by omega) ?_)
      refine go_iload_n (y := mX10_latherAfter) (pc := 5) dX10_latherAfter_5 rfl rfl ?_
      refine go_if_lt (y := mX10_latherAfter) (pc := 6) (tgt := 16) dX10_latherAfter_6 (by decide) (by omega) (fun h6 => ?_) (fun h6 => ?_)
      · skip
        exact absurd h6 (by omega)
      · skip
        refine go_iload_n (y := mX10_latherAfter) (pc := 9) dX10_latherAfter_9 rfl rfl ?_
        refine go_sipush (y := mX10_latherAfter) (pc := 10) dX10_latherAfter_10 (by decide) ?_
        refine go_icmp_le (y := mX10_latherAfter) (pc := 13) (tgt := 27) dX10_latherAfter_13 (by decide) (by omega) (by omega) (fun h13 => ?_) (fun h13 => ?_)
        · skip
          refine go_aload_n (y := mX10_latherAfter) (pc := 27) dX10_latherAfter_27 rfl rfl ?_
          refine go_getR (y := mX10_latherAfter) (pc := 28) dX10_latherAfter_28 fl_X10_51 rfl rfl (by decide) ?_
          refine go_aload_n (y := mX10_latherAfter) (pc := 31) dX10_latherAfter_31 rfl rfl ?_
          refine go_getR (y := mX10_latherAfter) (pc := 32) dX10_latherAfter_32 fl_X10_47 rfl rfl (by decide) ?_
          refine go_mem (put_v 41 _).symm ?_
          refine go_callV1 (y := mX10_latherAfter) (pc := 35) (y' := mX1_copyFrom) (kc2 := 0) (ks2 := 0) dX10_latherAfter_35 ml_X10_312 ok_X1_copyFrom (show shp 41 = _ from rfl) ⟨_, _, rfl⟩ (by decide) rfl (by decide) (Nat.le_of_ble_eq_true rfl) rfl (c_copyFrom h41 h20 (by decide) ?_)
          refine go_iconst (y := mX10_latherAfter) (pc := 38) dX10_latherAfter_38 ?_
          refine go_istore_n (y := mX10_latherAfter) (pc := 39) dX10_latherAfter_39 rfl (by decide) ?_
          exact loop _ (eqC_tr (eq_cpC _ _) eq_vput) n 0 (by omega)
        · skip
          exact absurd h13 (by omega)
    · exact absurd g0' g'
  · exact absurd g0 g
set_option maxRecDepth 8000 in
set_option maxHeartbeats 4000000 in
theorem h_minutesUntilVote {q : Int} (hq : rng q) (hS : wfS (su μ)) (hC : wfC (su μ) σ) (g0 : 0 ≤ q ∧ q < σ 5 0) {Q : Option Value → Mem → Prop} {X : String → Mem → Prop} (K : ∀ k : Nat, q = k → (k : Int) < σ 5 0 → ∀ τ τ', eqC τ σ → Q (some (.int (iI (mvk (su μ) τ k 301 0)))) (put 20 σ (put 41 τ' μ))) : mt 276 7 0 0 mX10_minutesUntilVote [.ref 0, .int (iI q)] Q X (put 20 σ μ) := by
  show go 276 7 0 0 mX10_minutesUntilVote Q X 0 [.ref 0, .int (iI q), .null] [] _
  have h16 := hC.1.2.1
  by_cases g : 0 ≤ q ∧ q < σ 5 0
  · obtain ⟨k, rfl⟩ := Int.eq_ofNat_of_zero_le g.1
    have gk := g.2
    have eS : su (put 20 σ μ) = su μ := su_put (by decide)
    have hSM : wfS (su (put 20 σ μ)) := by rw [eS]; exact hS
    have loop : ∀ τ, eqC τ σ → ∀ (j p : Nat), p + j = 301 → (∀ τ', Q (some (.int (iI (mvk (su μ) τ k j p)))) (put 20 σ (put 41 τ' μ))) → go 276 7 0 0 mX10_minutesUntilVote Q X 18 [.ref 0, .int (iI (k : Nat)), .int (iI (p : Nat))] [] (put 41 (pms (su (put 20 σ μ)) τ p).1 (put 20 σ μ)) := by
      intro τ hτ j
      have hτC : wfC (su (put 20 σ μ)) τ := by rw [eS]; exact wf_eq hS hC hτ
      induction j with
      | zero =>
        intro p hp hQ
        refine go_iload_n (y := mX10_minutesUntilVote) (pc := 18) dX10_minutesUntilVote_18 rfl rfl ?_
        refine go_sipush (y := mX10_minutesUntilVote) (pc := 19) dX10_minutesUntilVote_19 (by decide) ?_
        refine go_icmp_gt (y := mX10_minutesUntilVote) (pc := 22) (tgt := 52) dX10_minutesUntilVote_22 (by decide) (by omega) (by omega) (fun h22 => ?_) (fun h22 => ?_)
        · skip
          refine go_iconst (y := mX10_minutesUntilVote) (pc := 52) dX10_minutesUntilVote_52 ?_
          refine go_ireturn (y := mX10_minutesUntilVote) (pc := 53) dX10_minutesUntilVote_53 rfl ?_
          rw [put_c (by decide)]
          exact hQ _
        · skip
          exact absurd h22 (by omega)
      | succ j ih =>
        intro p hp hQ
        have hw := (wf_pms hSM hτC p).1
        refine go_iload_n (y := mX10_minutesUntilVote) (pc := 18) dX10_minutesUntilVote_18 rfl rfl ?_
        refine go_sipush (y := mX10_minutesUntilVote) (pc := 19) dX10_minutesUntilVote_19 (by decide) ?_
        refine go_icmp_gt (y := mX10_minutesUntilVote) (pc := 22) (tgt := 52) dX10_minutesUntilVote_22 (by decide) (by omega) (by omega) (fun h22 => ?_) (fun h22 => ?_)
        · skip
          exact absurd h22 (by omega)
        · skip
          refine go_aload_n (y := mX10_minutesUntilVote) (pc := 25) dX10_minutesUntilVote_25 rfl rfl ?_
          refine go_getR (y := mX10_minutesUntilVote) (pc := 26) dX10_minutesUntilVote_26 fl_X10_51 rfl rfl (by decide) ?_
          refine go_iload_n (y := mX10_minutesUntilVote) (pc := 29) dX10_minutesUntilVote_29 rfl rfl ?_
          refine go_callV1 (y := mX10_minutesUntilVote) (pc := 30) (y' := mX1_obstacleTo) (kc2 := 0) (ks2 := 0) dX10_minutesUntilVote_30 ml_X10_234 ok_X1_obstacleTo (ch_sh h41 0 (by decide)) ⟨_, _, rfl⟩ (ch_z (r := 0) h41 (by decide)) rfl (by decide) (Nat.le_of_ble_eq_true rfl) rfl (c_obstacleTo h41 (by omega) hSM hw.1.2.1 (fun v30 e30 b30 => ?_))
          refine go_if_ne (y := mX10_minutesUntilVote) (pc := 33) (tgt := 38) dX10_minutesUntilVote_33 (by decide) (by omega) (fun h33 => ?_) (fun h33 => ?_)
          · skip
            refine go_aload_n (y := mX10_minutesUntilVote) (pc := 38) dX10_minutesUntilVote_38 rfl rfl ?_
            refine go_getR (y := mX10_minutesUntilVote) (pc := 39) dX10_minutesUntilVote_39 fl_X10_51 rfl rfl (by decide) ?_
            refine go_callV0 (y := mX10_minutesUntilVote) (pc := 42) (y' := mX1_passMinute) (kc2 := 0) (ks2 := 0) dX10_minutesUntilVote_42 ml_X10_314 ok_X1_passMinute (ch_sh h41 0 (by decide)) ⟨_, _, rfl⟩ (ch_z (r := 0) h41 (by decide)) trivial (by decide) (Nat.le_of_ble_eq_true rfl) rfl (c_passMinute h41 hSM hw ?_)
            refine go_pop (y := mX10_minutesUntilVote) (pc := 45) dX10_minutesUntilVote_45 rfl ?_
            refine go_iinc (y := mX10_minutesUntilVote) (pc := 46) dX10_minutesUntilVote_46 rfl (by decide) ?_
            refine go_goto (y := mX10_minutesUntilVote) (pc := 49) (tgt := 18) dX10_minutesUntilVote_49 (by decide) ?_
            refine ih (p + 1) (by omega) (fun τ' => ?_)
            have h9 := hQ τ'
            rw [mvk, if_neg (by rw [← eS, ← e30]; exact h33)] at h9
            exact h9
          · skip
            refine go_iload_n (y := mX10_minutesUntilVote) (pc := 36) dX10_minutesUntilVote_36 rfl rfl ?_
            refine go_ireturn (y := mX10_minutesUntilVote) (pc := 37) dX10_minutesUntilVote_37 rfl ?_
            have h9 := hQ (pms (su (put 20 σ μ)) τ p).1
            rw [mvk, if_pos (by rw [← eS, ← e30]; exact h33)] at h9
            rw [put_c (by decide)]
            exact h9
    refine go_aload_n (y := mX10_minutesUntilVote) (pc := 0) dX10_minutesUntilVote_0 rfl rfl ?_
    refine go_iload_n (y := mX10_minutesUntilVote) (pc := 1) dX10_minutesUntilVote_1 rfl rfl ?_
    refine go_callV1 (y := mX10_minutesUntilVote) (pc := 2) (y' := mX10_requireMotion) (kc2 := 0) (ks2 := 0) dX10_minutesUntilVote_2 ml_X10_188 ok_X10_requireMotion (show shp 0 = _ from rfl) ⟨_, _, rfl⟩ (by decide) rfl (by decide) (Nat.le_of_ble_eq_true rfl) rfl (h_requireMotion g (by omega) ?_)
    refine go_aload_n (y := mX10_minutesUntilVote) (pc := 5) dX10_minutesUntilVote_5 rfl rfl ?_
    refine go_getR (y := mX10_minutesUntilVote) (pc := 6) dX10_minutesUntilVote_6 fl_X10_51 rfl rfl (by decide) ?_
    refine go_aload_n (y := mX10_minutesUntilVote) (pc := 9) dX10_minutesUntilVote_9 rfl rfl ?_
    refine go_getR (y := mX10_minutesUntilVote) (pc := 10) dX10_minutesUntilVote_10 fl_X10_47 rfl rfl (by decide) ?_
    refine go_mem (put_v 41 _).symm ?_
    refine go_callV1 (y := mX10_minutesUntilVote) (pc := 13) (y' := mX1_copyFrom) (kc2 := 0) (ks2 := 0) dX10_minutesUntilVote_13 ml_X10_312 ok_X1_copyFrom (show shp 41 = _ from rfl) ⟨_, _, rfl⟩ (by decide) rfl (by decide) (Nat.le_of_ble_eq_true rfl) rfl (c_copyFrom h41 h20 (by decide) ?_)
    refine go_iconst (y := mX10_minutesUntilVote) (pc := 16) dX10_minutesUntilVote_16 ?_
    refine go_istore_n (y := mX10_minutesUntilVote) (pc := 17) dX10_minutesUntilVote_17 rfl (by decide) ?_
    exact loop _ (eqC_tr (eq_cpC _ _) eq_vput) 301 0 (by omega) (fun τ' => K k rfl gk _ τ' (eqC_tr (eq_cpC _ _) eq_vput))
  · exact absurd g0 g
set_option maxRecDepth 8000 in
set_option maxHeartbeats 4000000 in
theorem h_minutesUntilSpeech {m : Int} (hm : rng m) (hS : wfS (su μ)) (hC : wfC (su μ) σ) (g0 : 0 ≤ m ∧ m < su μ 0 7) {Q : Option Value → Mem → Prop} {X : String → Mem → Prop} (K : ∀ k : Nat, m = k → (k : Int) < su μ 0 7 → plc σ k = -1 → Q (some (.int (iI (-1)))) (put 20 σ μ)) (K2 : ∀ k : Nat, m = k → (k : Int) < su μ 0 7 → plc σ k ≠ -1 → ∀ τ τ', eqC τ σ → Q (some (.int (iI (msk (su μ) τ k 300 1)))) (put 20 σ (put 41 τ' μ))) : mt 276 7 0 0 mX10_minutesUntilSpeech [.ref 0, .int (iI m)] Q X (put 20 σ μ) := by
  show go 276 7 0 0 mX10_minutesUntilSpeech Q X 0 [.ref 0, .int (iI m), .null] [] _
  obtain ⟨n1, n12, c1, c4⟩ := wf_n hS
  obtain ⟨q0, q16, h11, h12⟩ := wf_r hS hC
  by_cases g : 0 ≤ m ∧ m < su μ 0 7
  · obtain ⟨k, rfl⟩ := Int.eq_ofNat_of_zero_le g.1
    have gk := g.2
    have eS : su (put 20 σ μ) = su μ := su_put (by decide)
    have hSM : wfS (su (put 20 σ μ)) := by rw [eS]; exact hS
    have loop : ∀ τ, eqC τ σ → ∀ (j p : Nat), p + j = 300 → (∀ τ', Q (some (.int (iI (msk (su μ) τ k j (p + 1))))) (put 20 σ (put 41 τ' μ))) → go 276 7 0 0 mX10_minutesUntilSpeech Q X 35 [.ref 0, .int (iI (k : Nat)), .int (iI (p + 1 : Nat))] [] (put 41 (pms (su (put 20 σ μ)) τ p).1 (put 20 σ μ)) := by
      intro τ hτ j
      have hτC : wfC (su (put 20 σ μ)) τ := by rw [eS]; exact wf_eq hS hC hτ
      induction j with
      | zero =>
        intro p hp hQ
        refine go_iload_n (y := mX10_minutesUntilSpeech) (pc := 35) dX10_minutesUntilSpeech_35 rfl rfl ?_
        refine go_sipush (y := mX10_minutesUntilSpeech) (pc := 36) dX10_minutesUntilSpeech_36 (by decide) ?_
        refine go_icmp_gt (y := mX10_minutesUntilSpeech) (pc := 39) (tgt := 73) dX10_minutesUntilSpeech_39 (by decide) (by omega) (by omega) (fun h39 => ?_) (fun h39 => ?_)
        · skip
          refine go_iconst (y := mX10_minutesUntilSpeech) (pc := 73) dX10_minutesUntilSpeech_73 ?_
          refine go_ireturn (y := mX10_minutesUntilSpeech) (pc := 74) dX10_minutesUntilSpeech_74 rfl ?_
          rw [put_c (by decide)]
          exact hQ _
        · skip
          exact absurd h39 (by omega)
      | succ j ih =>
        intro p hp hQ
        have hw := (wf_pms hSM hτC p).1
        have hw2 := wf_r hSM (wf_pms hSM hτC (p + 1)).1
        refine go_iload_n (y := mX10_minutesUntilSpeech) (pc := 35) dX10_minutesUntilSpeech_35 rfl rfl ?_
        refine go_sipush (y := mX10_minutesUntilSpeech) (pc := 36) dX10_minutesUntilSpeech_36 (by decide) ?_
        refine go_icmp_gt (y := mX10_minutesUntilSpeech) (pc := 39) (tgt := 73) dX10_minutesUntilSpeech_39 (by decide) (by omega) (by omega) (fun h39 => ?_) (fun h39 => ?_)
        · skip
          exact absurd h39 (by omega)
        · skip
          refine go_aload_n (y := mX10_minutesUntilSpeech) (pc := 42) dX10_minutesUntilSpeech_42 rfl rfl ?_
          refine go_getR (y := mX10_minutesUntilSpeech) (pc := 43) dX10_minutesUntilSpeech_43 fl_X10_51 rfl rfl (by decide) ?_
          refine go_callV0 (y := mX10_minutesUntilSpeech) (pc := 46) (y' := mX1_passMinute) (kc2 := 0) (ks2 := 0) dX10_minutesUntilSpeech_46 ml_X10_314 ok_X1_passMinute (ch_sh h41 0 (by decide)) ⟨_, _, rfl⟩ (ch_z (r := 0) h41 (by decide)) trivial (by decide) (Nat.le_of_ble_eq_true rfl) rfl (c_passMinute h41 hSM hw ?_)
          refine go_pop (y := mX10_minutesUntilSpeech) (pc := 49) dX10_minutesUntilSpeech_49 rfl ?_
          refine go_aload_n (y := mX10_minutesUntilSpeech) (pc := 50) dX10_minutesUntilSpeech_50 rfl rfl ?_
          refine go_getR (y := mX10_minutesUntilSpeech) (pc := 51) dX10_minutesUntilSpeech_51 fl_X10_51 rfl rfl (by decide) ?_
          refine go_getR (y := mX10_minutesUntilSpeech) (pc := 54) dX10_minutesUntilSpeech_54 fl_X10_209 (ch_sh h41 0 (by decide)) rfl (ch_z (r := 0) h41 (by decide)) ?_
          refine go_iload_n (y := mX10_minutesUntilSpeech) (pc := 57) dX10_minutesUntilSpeech_57 rfl rfl ?_
          refine go_callV1 (y := mX10_minutesUntilSpeech) (pc := 58) (y' := mX5_placeOf) (kc2 := 0) (ks2 := 0) dX10_minutesUntilSpeech_58 ml_X10_213 ok_X5_placeOf (ch_sh h41 11 (by decide)) ⟨_, _, rfl⟩ (ch_z (r := 11) h41 (by decide)) rfl (by decide) (Nat.le_of_ble_eq_true rfl) rfl (c_placeOf h41 (by omega) hw2.2.2.1 hw2.2.2.2 (fun v58 e58 b58 => ?_))
          refine go_iconst (y := mX10_minutesUntilSpeech) (pc := 61) dX10_minutesUntilSpeech_61 ?_
          refine go_icmp_ne (y := mX10_minutesUntilSpeech) (pc := 62) (tgt := 67) dX10_minutesUntilSpeech_62 (by decide) (by omega) (by omega) (fun h62 => ?_) (fun h62 => ?_)
          · skip
            refine go_iinc (y := mX10_minutesUntilSpeech) (pc := 67) dX10_minutesUntilSpeech_67 rfl (by decide) ?_
            refine go_goto (y := mX10_minutesUntilSpeech) (pc := 70) (tgt := 35) dX10_minutesUntilSpeech_70 (by decide) ?_
            refine ih (p + 1) (by omega) (fun τ' => ?_)
            have h9 := hQ τ'
            rw [msk, if_neg (by rw [← eS]; intro w; exact h62 (e58.trans w))] at h9
            exact h9
          · skip
            refine go_iload_n (y := mX10_minutesUntilSpeech) (pc := 65) dX10_minutesUntilSpeech_65 rfl rfl ?_
            refine go_ireturn (y := mX10_minutesUntilSpeech) (pc := 66) dX10_minutesUntilSpeech_66 rfl ?_
            have h9 := hQ (pms (su (put 20 σ μ)) τ (p + 1)).1
            rw [msk, if_pos (by rw [← eS]; exact e58.symm.trans h62)] at h9
            rw [put_c (by decide)]
            exact h9
    refine go_aload_n (y := mX10_minutesUntilSpeech) (pc := 0) dX10_minutesUntilSpeech_0 rfl rfl ?_
    refine go_iload_n (y := mX10_minutesUntilSpeech) (pc := 1) dX10_minutesUntilSpeech_1 rfl rfl ?_
    refine go_callV1 (y := mX10_minutesUntilSpeech) (pc := 2) (y' := mX10_requireMember) (kc2 := 0) (ks2 := 0) dX10_minutesUntilSpeech_2 ml_X10_166 ok_X10_requireMember (show shp 0 = _ from rfl) ⟨_, _, rfl⟩ (by decide) rfl (by decide) (Nat.le_of_ble_eq_true rfl) rfl (h_requireMember g (by omega) ?_)
    refine go_aload_n (y := mX10_minutesUntilSpeech) (pc := 5) dX10_minutesUntilSpeech_5 rfl rfl ?_
    refine go_getR (y := mX10_minutesUntilSpeech) (pc := 6) dX10_minutesUntilSpeech_6 fl_X10_47 rfl rfl (by decide) ?_
    refine go_getR (y := mX10_minutesUntilSpeech) (pc := 9) dX10_minutesUntilSpeech_9 fl_X10_209 (ch_sh h20 0 (by decide)) rfl (ch_z (r := 0) h20 (by decide)) ?_
    refine go_iload_n (y := mX10_minutesUntilSpeech) (pc := 12) dX10_minutesUntilSpeech_12 rfl rfl ?_
    refine go_callV1 (y := mX10_minutesUntilSpeech) (pc := 13) (y' := mX5_placeOf) (kc2 := 0) (ks2 := 0) dX10_minutesUntilSpeech_13 ml_X10_213 ok_X5_placeOf (ch_sh h20 11 (by decide)) ⟨_, _, rfl⟩ (ch_z (r := 11) h20 (by decide)) rfl (by decide) (Nat.le_of_ble_eq_true rfl) rfl (c_placeOf h20 (by omega) h11 h12 (fun v13 e13 b13 => ?_))
    refine go_iconst (y := mX10_minutesUntilSpeech) (pc := 16) dX10_minutesUntilSpeech_16 ?_
    refine go_icmp_ne (y := mX10_minutesUntilSpeech) (pc := 17) (tgt := 22) dX10_minutesUntilSpeech_17 (by decide) (by omega) (by omega) (fun h17 => ?_) (fun h17 => ?_)
    · skip
      refine go_aload_n (y := mX10_minutesUntilSpeech) (pc := 22) dX10_minutesUntilSpeech_22 rfl rfl ?_
      refine go_getR (y := mX10_minutesUntilSpeech) (pc := 23) dX10_minutesUntilSpeech_23 fl_X10_51 rfl rfl (by decide) ?_
      refine go_aload_n (y := mX10_minutesUntilSpeech) (pc := 26) dX10_minutesUntilSpeech_26 rfl rfl ?_
      refine go_getR (y := mX10_minutesUntilSpeech) (pc := 27) dX10_minutesUntilSpeech_27 fl_X10_47 rfl rfl (by decide) ?_
      refine go_mem (put_v 41 _).symm ?_
      refine go_callV1 (y := mX10_minutesUntilSpeech) (pc := 30) (y' := mX1_copyFrom) (kc2 := 0) (ks2 := 0) dX10_minutesUntilSpeech_30 ml_X10_312 ok_X1_copyFrom (show shp 41 = _ from rfl) ⟨_, _, rfl⟩ (by decide) rfl (by decide) (Nat.le_of_ble_eq_true rfl) rfl (c_copyFrom h41 h20 (by decide) ?_)
      refine go_iconst (y := mX10_minutesUntilSpeech) (pc := 33) dX10_minutesUntilSpeech_33 ?_
      refine go_istore_n (y := mX10_minutesUntilSpeech) (pc := 34) dX10_minutesUntilSpeech_34 rfl (by decide) ?_
      exact loop _ (eqC_tr (eq_cpC _ _) eq_vput) 300 0 (by omega) (fun τ' => K2 k rfl gk (fun w => h17 (e13.trans w)) _ τ' (eqC_tr (eq_cpC _ _) eq_vput))
    · skip
      refine go_iconst (y := mX10_minutesUntilSpeech) (pc := 20) dX10_minutesUntilSpeech_20 ?_
      refine go_ireturn (y := mX10_minutesUntilSpeech) (pc := 21) dX10_minutesUntilSpeech_21 rfl ?_
      exact K k rfl gk (e13.symm.trans h17)
  · exact absurd g0 g
end Quiet
