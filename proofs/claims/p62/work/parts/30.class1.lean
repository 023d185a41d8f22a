/-! THE CLASS ITSELF: refusals and readings -/
set_option maxRecDepth 8000 in
set_option maxHeartbeats 4000000 in
theorem g_requireMember {σ μ : Mem} {m : Int} (hm : rng m) {Q : Option Value → Mem → Prop} {X : String → Mem → Prop} (K : 0 ≤ m ∧ m < su μ 0 7 → Q none (put 20 σ μ)) (K2 : ¬ (0 ≤ m ∧ m < su μ 0 7) → X "java/lang/IndexOutOfBoundsException" (put 20 σ μ)) : mt 276 6 1 6 mX10_requireMember [.ref 0, .int (iI m)] Q X (put 20 σ μ) := by
  show go 276 6 1 6 mX10_requireMember Q X 0 [.ref 0, .int (iI m)] [] _
  refine go_aload_n (y := mX10_requireMember) (pc := 0) dX10_requireMember_0 rfl rfl ?_
  refine go_getR (y := mX10_requireMember) (pc := 1) dX10_requireMember_1 fl_X10_35 rfl rfl (by decide) ?_
  refine go_iload_n (y := mX10_requireMember) (pc := 4) dX10_requireMember_4 rfl rfl ?_
  refine go_callV1 (y := mX10_requireMember) (pc := 5) (y' := mX7_hasMember) (kc2 := 1) (ks2 := 6) dX10_requireMember_5 ml_X10_408 ok_X7_hasMember (show shp 10 = _ from rfl) ⟨_, _, rfl⟩ (by decide) rfl (by decide) (Nat.le_of_ble_eq_true rfl) rfl (s_hasMember h20 (by omega) (fun v5 e5 b5 => ?_))
  refine go_if_ne (y := mX10_requireMember) (pc := 8) (tgt := 22) dX10_requireMember_8 (by decide) (by omega) (fun h8 => ?_) (fun h8 => ?_)
  · skip
    refine go_return (y := mX10_requireMember) (pc := 22) dX10_requireMember_22 rfl ?_
    exact K (bI_1 e5 h8)
  · skip
    refine go_throwW (y := mX10_requireMember) (pc := 11) (i := 20) th_I rfl dX10_requireMember_11 dX10_requireMember_14 dX10_requireMember_15 dX10_requireMember_18 dX10_requireMember_21 (by decide) (Nat.le_of_ble_eq_true rfl) rfl ?_
    exact K2 (bI_0 e5 h8)
set_option maxRecDepth 8000 in
set_option maxHeartbeats 4000000 in
theorem g_requireMotion {σ μ : Mem} {m : Int} (hm : rng m) {Q : Option Value → Mem → Prop} {X : String → Mem → Prop} (K : 0 ≤ m ∧ m < σ 5 0 → Q none (put 20 σ μ)) (K2 : ¬ (0 ≤ m ∧ m < σ 5 0) → X "java/lang/IndexOutOfBoundsException" (put 20 σ μ)) : mt 276 6 1 6 mX10_requireMotion [.ref 0, .int (iI m)] Q X (put 20 σ μ) := by
  show go 276 6 1 6 mX10_requireMotion Q X 0 [.ref 0, .int (iI m)] [] _
  refine go_aload_n (y := mX10_requireMotion) (pc := 0) dX10_requireMotion_0 rfl rfl ?_
  refine go_getR (y := mX10_requireMotion) (pc := 1) dX10_requireMotion_1 fl_X10_47 rfl rfl (by decide) ?_
  refine go_getR (y := mX10_requireMotion) (pc := 4) dX10_requireMotion_4 fl_X10_191 (ch_sh h20 0 (by decide)) rfl (ch_z (r := 0) h20 (by decide)) ?_
  refine go_iload_n (y := mX10_requireMotion) (pc := 7) dX10_requireMotion_7 rfl rfl ?_
  refine go_callV1 (y := mX10_requireMotion) (pc := 8) (y' := mX4_has) (kc2 := 1) (ks2 := 6) dX10_requireMotion_8 ml_X10_416 ok_X4_has (ch_sh h20 5 (by decide)) ⟨_, _, rfl⟩ (ch_z (r := 5) h20 (by decide)) rfl (by decide) (Nat.le_of_ble_eq_true rfl) rfl (c_has h20 (by omega) (fun v8 e8 b8 => ?_))
  refine go_if_ne (y := mX10_requireMotion) (pc := 11) (tgt := 25) dX10_requireMotion_11 (by decide) (by omega) (fun h11 => ?_) (fun h11 => ?_)
  · skip
    refine go_return (y := mX10_requireMotion) (pc := 25) dX10_requireMotion_25 rfl ?_
    exact K (bI_1 e8 h11)
  · skip
    refine go_throwW (y := mX10_requireMotion) (pc := 14) (i := 21) th_I rfl dX10_requireMotion_14 dX10_requireMotion_17 dX10_requireMotion_18 dX10_requireMotion_21 dX10_requireMotion_24 (by decide) (Nat.le_of_ble_eq_true rfl) rfl ?_
    exact K2 (bI_0 e8 h11)
set_option maxRecDepth 8000 in
set_option maxHeartbeats 4000000 in
theorem g_requireChair {σ μ : Mem} {m : Int} (hm : rng m) {Q : Option Value → Mem → Prop} {X : String → Mem → Prop} (K : 0 ≤ m ∧ m < su μ 0 0 → Q none (put 20 σ μ)) (K2 : ¬ (0 ≤ m ∧ m < su μ 0 0) → X "java/lang/IndexOutOfBoundsException" (put 20 σ μ)) : mt 276 6 1 6 mX10_requireChair [.ref 0, .int (iI m)] Q X (put 20 σ μ) := by
  show go 276 6 1 6 mX10_requireChair Q X 0 [.ref 0, .int (iI m)] [] _
  refine go_aload_n (y := mX10_requireChair) (pc := 0) dX10_requireChair_0 rfl rfl ?_
  refine go_getR (y := mX10_requireChair) (pc := 1) dX10_requireChair_1 fl_X10_35 rfl rfl (by decide) ?_
  refine go_iload_n (y := mX10_requireChair) (pc := 4) dX10_requireChair_4 rfl rfl ?_
  refine go_callV1 (y := mX10_requireChair) (pc := 5) (y' := mX7_hasChair) (kc2 := 1) (ks2 := 6) dX10_requireChair_5 ml_X10_421 ok_X7_hasChair (show shp 10 = _ from rfl) ⟨_, _, rfl⟩ (by decide) rfl (by decide) (Nat.le_of_ble_eq_true rfl) rfl (s_hasChair h20 (by omega) (fun v5 e5 b5 => ?_))
  refine go_if_ne (y := mX10_requireChair) (pc := 8) (tgt := 22) dX10_requireChair_8 (by decide) (by omega) (fun h8 => ?_) (fun h8 => ?_)
  · skip
    refine go_return (y := mX10_requireChair) (pc := 22) dX10_requireChair_22 rfl ?_
    exact K (bI_1 e5 h8)
  · skip
    refine go_throwW (y := mX10_requireChair) (pc := 11) (i := 22) th_I rfl dX10_requireChair_11 dX10_requireChair_14 dX10_requireChair_15 dX10_requireChair_18 dX10_requireChair_21 (by decide) (Nat.le_of_ble_eq_true rfl) rfl ?_
    exact K2 (bI_0 e5 h8)
set_option maxRecDepth 8000 in
set_option maxHeartbeats 4000000 in
theorem g_throwIfRefused {σ μ : Mem} {m : Int} (hm : 0 ≤ m ∧ m ≤ 3) {Q : Option Value → Mem → Prop} {X : String → Mem → Prop} (K : m = 0 → Q none (put 20 σ μ)) (K2 : m = 1 → X "java/lang/IndexOutOfBoundsException" (put 20 σ μ)) (K3 : m = 2 → X "java/lang/IllegalArgumentException" (put 20 σ μ)) (K4 : m = 3 → X "java/lang/IllegalStateException" (put 20 σ μ)) : mt 276 6 1 6 mX10_throwIfRefused [.int (iI m)] Q X (put 20 σ μ) := by
  show go 276 6 1 6 mX10_throwIfRefused Q X 0 [.int (iI m)] [] _
  by_cases g0 : m = 0
  · subst g0
    refine go_iload_n (y := mX10_throwIfRefused) (pc := 0) dX10_throwIfRefused_0 rfl rfl ?_
    refine go_tbOut (y := mX10_throwIfRefused) (pc := 1) (tgt := 61) dX10_throwIfRefused_1 (by omega) (by omega) (by decide) ?_
    refine go_return (y := mX10_throwIfRefused) (pc := 61) dX10_throwIfRefused_61 rfl ?_
    exact K rfl
  by_cases g1 : m = 1
  · subst g1
    refine go_iload_n (y := mX10_throwIfRefused) (pc := 0) dX10_throwIfRefused_0 rfl rfl ?_
    refine go_tbIn (y := mX10_throwIfRefused) (pc := 1) (off := 27) (tgt := 28) dX10_throwIfRefused_1 (by decide) (by decide) (by decide) rfl (by decide) ?_
    refine go_throwW (y := mX10_throwIfRefused) (pc := 28) (i := 24) th_I rfl dX10_throwIfRefused_28 dX10_throwIfRefused_31 dX10_throwIfRefused_32 dX10_throwIfRefused_35 dX10_throwIfRefused_38 (by decide) (Nat.le_of_ble_eq_true rfl) rfl ?_
    exact K2 rfl
  by_cases g2 : m = 2
  · subst g2
    refine go_iload_n (y := mX10_throwIfRefused) (pc := 0) dX10_throwIfRefused_0 rfl rfl ?_
    refine go_tbIn (y := mX10_throwIfRefused) (pc := 1) (off := 38) (tgt := 39) dX10_throwIfRefused_1 (by decide) (by decide) (by decide) rfl (by decide) ?_
    refine go_throwW (y := mX10_throwIfRefused) (pc := 39) (i := 25) th_A rfl dX10_throwIfRefused_39 dX10_throwIfRefused_42 dX10_throwIfRefused_43 dX10_throwIfRefused_46 dX10_throwIfRefused_49 (by decide) (Nat.le_of_ble_eq_true rfl) rfl ?_
    exact K3 rfl
  by_cases g3 : m = 3
  · subst g3
    refine go_iload_n (y := mX10_throwIfRefused) (pc := 0) dX10_throwIfRefused_0 rfl rfl ?_
    refine go_tbIn (y := mX10_throwIfRefused) (pc := 1) (off := 49) (tgt := 50) dX10_throwIfRefused_1 (by decide) (by decide) (by decide) rfl (by decide) ?_
    refine go_throwW (y := mX10_throwIfRefused) (pc := 50) (i := 26) th_S rfl dX10_throwIfRefused_50 dX10_throwIfRefused_53 dX10_throwIfRefused_54 dX10_throwIfRefused_57 dX10_throwIfRefused_60 (by decide) (Nat.le_of_ble_eq_true rfl) rfl ?_
    exact K4 rfl
  omega
set_option maxRecDepth 8000 in
set_option maxHeartbeats 4000000 in
theorem g_memberCount {σ μ : Mem} (hS : wfS (su μ)) (hC : wfC (su μ) σ) {Q : Option Value → Mem → Prop} {X : String → Mem → Prop} (K : Q (some (.int (iI (su μ 0 7)))) (put 20 σ μ)) : mt 276 3 0 0 mX10_memberCount [.ref 0] Q X (put 20 σ μ) := by
  show go 276 3 0 0 mX10_memberCount Q X 0 [.ref 0] [] _
  have n1 : 1 ≤ su μ 0 7 := hS.2.2.2.2.2.2.2.2.2.2.2.2.2.2.1
  have n2 : su μ 0 7 ≤ 12 := hS.2.2.2.2.2.2.2.2.2.2.2.2.2.2.2.1
  have c4 : su μ 0 0 ≤ 4 := hS.2.1
  have h5 := hC.1.1
  have h16 := hC.1.2.1
  have h11 := hC.1.2.2.1
  have h12 : σ 11 0 ≤ 12 := by have := hC.1.2.2.2.1; omega
  have hS' := hS
  have hC' := hC
  refine go_aload_n (y := mX10_memberCount) (pc := 0) dX10_memberCount_0 rfl rfl ?_
  refine go_getR (y := mX10_memberCount) (pc := 1) dX10_memberCount_1 fl_X10_35 rfl rfl (by decide) ?_
  refine go_sget (y := mX10_memberCount) (pc := 4) (r := 0) dX10_memberCount_4 fl_X10_156 h20 (by decide) rfl rfl (by decide) (fun r4 => ?_)
  refine go_ireturn (y := mX10_memberCount) (pc := 7) dX10_memberCount_7 rfl ?_
  exact K
set_option maxRecDepth 8000 in
set_option maxHeartbeats 4000000 in
theorem g_motionCount {σ μ : Mem} (hS : wfS (su μ)) (hC : wfC (su μ) σ) {Q : Option Value → Mem → Prop} {X : String → Mem → Prop} (K : Q (some (.int (iI (σ 5 0)))) (put 20 σ μ)) : mt 276 3 0 0 mX10_motionCount [.ref 0] Q X (put 20 σ μ) := by
  show go 276 3 0 0 mX10_motionCount Q X 0 [.ref 0] [] _
  have n1 : 1 ≤ su μ 0 7 := hS.2.2.2.2.2.2.2.2.2.2.2.2.2.2.1
  have n2 : su μ 0 7 ≤ 12 := hS.2.2.2.2.2.2.2.2.2.2.2.2.2.2.2.1
  have c4 : su μ 0 0 ≤ 4 := hS.2.1
  have h5 := hC.1.1
  have h16 := hC.1.2.1
  have h11 := hC.1.2.2.1
  have h12 : σ 11 0 ≤ 12 := by have := hC.1.2.2.2.1; omega
  have hS' := hS
  have hC' := hC
  refine go_aload_n (y := mX10_motionCount) (pc := 0) dX10_motionCount_0 rfl rfl ?_
  refine go_getR (y := mX10_motionCount) (pc := 1) dX10_motionCount_1 fl_X10_47 rfl rfl (by decide) ?_
  refine go_getR (y := mX10_motionCount) (pc := 4) dX10_motionCount_4 fl_X10_191 (ch_sh h20 0 (by decide)) rfl (ch_z (r := 0) h20 (by decide)) ?_
  refine go_cget (y := mX10_motionCount) (pc := 7) (r := 5) dX10_motionCount_7 fl_X10_218 h20 (by decide) rfl rfl (by decide) (fun r7 => ?_)
  refine go_ireturn (y := mX10_motionCount) (pc := 10) dX10_motionCount_10 rfl ?_
  exact K
set_option maxRecDepth 8000 in
set_option maxHeartbeats 4000000 in
theorem g_chairCount {σ μ : Mem} (hS : wfS (su μ)) (hC : wfC (su μ) σ) {Q : Option Value → Mem → Prop} {X : String → Mem → Prop} (K : Q (some (.int (iI (su μ 0 0)))) (put 20 σ μ)) : mt 276 3 0 0 mX10_chairCount [.ref 0] Q X (put 20 σ μ) := by
  show go 276 3 0 0 mX10_chairCount Q X 0 [.ref 0] [] _
  have n1 : 1 ≤ su μ 0 7 := hS.2.2.2.2.2.2.2.2.2.2.2.2.2.2.1
  have n2 : su μ 0 7 ≤ 12 := hS.2.2.2.2.2.2.2.2.2.2.2.2.2.2.2.1
  have c4 : su μ 0 0 ≤ 4 := hS.2.1
  have h5 := hC.1.1
  have h16 := hC.1.2.1
  have h11 := hC.1.2.2.1
  have h12 : σ 11 0 ≤ 12 := by have := hC.1.2.2.2.1; omega
  have hS' := hS
  have hC' := hC
  refine go_aload_n (y := mX10_chairCount) (pc := 0) dX10_chairCount_0 rfl rfl ?_
  refine go_getR (y := mX10_chairCount) (pc := 1) dX10_chairCount_1 fl_X10_35 rfl rfl (by decide) ?_
  refine go_sget (y := mX10_chairCount) (pc := 4) (r := 0) dX10_chairCount_4 fl_X10_243 h20 (by decide) rfl rfl (by decide) (fun r4 => ?_)
  refine go_ireturn (y := mX10_chairCount) (pc := 7) dX10_chairCount_7 rfl ?_
  exact K
set_option maxRecDepth 8000 in
set_option maxHeartbeats 4000000 in
theorem g_minute {σ μ : Mem} (hS : wfS (su μ)) (hC : wfC (su μ) σ) {Q : Option Value → Mem → Prop} {X : String → Mem → Prop} (K : Q (some (.int (iI (σ 0 5)))) (put 20 σ μ)) : mt 276 3 0 0 mX10_minute [.ref 0] Q X (put 20 σ μ) := by
  show go 276 3 0 0 mX10_minute Q X 0 [.ref 0] [] _
  have n1 : 1 ≤ su μ 0 7 := hS.2.2.2.2.2.2.2.2.2.2.2.2.2.2.1
  have n2 : su μ 0 7 ≤ 12 := hS.2.2.2.2.2.2.2.2.2.2.2.2.2.2.2.1
  have c4 : su μ 0 0 ≤ 4 := hS.2.1
  have h5 := hC.1.1
  have h16 := hC.1.2.1
  have h11 := hC.1.2.2.1
  have h12 : σ 11 0 ≤ 12 := by have := hC.1.2.2.2.1; omega
  have hS' := hS
  have hC' := hC
  refine go_aload_n (y := mX10_minute) (pc := 0) dX10_minute_0 rfl rfl ?_
  refine go_getR (y := mX10_minute) (pc := 1) dX10_minute_1 fl_X10_47 rfl rfl (by decide) ?_
  refine go_cget (y := mX10_minute) (pc := 4) (r := 0) dX10_minute_4 fl_X10_245 h20 (by decide) rfl rfl (by decide) (fun r4 => ?_)
  refine go_ireturn (y := mX10_minute) (pc := 7) dX10_minute_7 rfl ?_
  exact K
set_option maxRecDepth 8000 in
set_option maxHeartbeats 4000000 in
theorem g_freeMirrors {σ μ : Mem} (hS : wfS (su μ)) (hC : wfC (su μ) σ) {Q : Option Value → Mem → Prop} {X : String → Mem → Prop} (K : Q (some (.int (iI (frm (su μ) σ)))) (put 20 σ μ)) : mt 276 3 0 0 mX10_freeMirrors [.ref 0] Q X (put 20 σ μ) := by
  show go 276 3 0 0 mX10_freeMirrors Q X 0 [.ref 0] [] _
  have n1 : 1 ≤ su μ 0 7 := hS.2.2.2.2.2.2.2.2.2.2.2.2.2.2.1
  have n2 : su μ 0 7 ≤ 12 := hS.2.2.2.2.2.2.2.2.2.2.2.2.2.2.2.1
  have c4 : su μ 0 0 ≤ 4 := hS.2.1
  have h5 := hC.1.1
  have h16 := hC.1.2.1
  have h11 := hC.1.2.2.1
  have h12 : σ 11 0 ≤ 12 := by have := hC.1.2.2.2.1; omega
  have hS' := hS
  have hC' := hC
  refine go_aload_n (y := mX10_freeMirrors) (pc := 0) dX10_freeMirrors_0 rfl rfl ?_
  refine go_getR (y := mX10_freeMirrors) (pc := 1) dX10_freeMirrors_1 fl_X10_47 rfl rfl (by decide) ?_
  refine go_callV0 (y := mX10_freeMirrors) (pc := 4) (y' := mX1_countFreeMirrors) (kc2 := 0) (ks2 := 0) dX10_freeMirrors_4 ml_X10_248 ok_X1_countFreeMirrors (ch_sh h20 0 (by decide)) ⟨_, _, rfl⟩ (ch_z (r := 0) h20 (by decide)) trivial (by decide) (Nat.le_of_ble_eq_true rfl) rfl (c_countFreeMirrors h20 ?_)
  refine go_ireturn (y := mX10_freeMirrors) (pc := 7) dX10_freeMirrors_7 rfl ?_
  exact K
set_option maxRecDepth 8000 in
set_option maxHeartbeats 4000000 in
theorem g_ranking {σ μ : Mem} (hS : wfS (su μ)) (hC : wfC (su μ) σ) {Q : Option Value → Mem → Prop} {X : String → Mem → Prop} (K : Q (some (.int (iI (σ 0 6)))) (put 20 σ μ)) : mt 276 3 0 0 mX10_ranking [.ref 0] Q X (put 20 σ μ) := by
  show go 276 3 0 0 mX10_ranking Q X 0 [.ref 0] [] _
  have n1 : 1 ≤ su μ 0 7 := hS.2.2.2.2.2.2.2.2.2.2.2.2.2.2.1
  have n2 : su μ 0 7 ≤ 12 := hS.2.2.2.2.2.2.2.2.2.2.2.2.2.2.2.1
  have c4 : su μ 0 0 ≤ 4 := hS.2.1
  have h5 := hC.1.1
  have h16 := hC.1.2.1
  have h11 := hC.1.2.2.1
  have h12 : σ 11 0 ≤ 12 := by have := hC.1.2.2.2.1; omega
  have hS' := hS
  have hC' := hC
  refine go_aload_n (y := mX10_ranking) (pc := 0) dX10_ranking_0 rfl rfl ?_
  refine go_getR (y := mX10_ranking) (pc := 1) dX10_ranking_1 fl_X10_47 rfl rfl (by decide) ?_
  refine go_cget (y := mX10_ranking) (pc := 4) (r := 0) dX10_ranking_4 fl_X10_252 h20 (by decide) rfl rfl (by decide) (fun r4 => ?_)
  refine go_ireturn (y := mX10_ranking) (pc := 7) dX10_ranking_7 rfl ?_
  exact K
set_option maxRecDepth 8000 in
set_option maxHeartbeats 4000000 in
theorem g_requestCount {σ μ : Mem} (hS : wfS (su μ)) (hC : wfC (su μ) σ) {Q : Option Value → Mem → Prop} {X : String → Mem → Prop} (K : Q (some (.int (iI (σ 11 0)))) (put 20 σ μ)) : mt 276 3 0 0 mX10_requestCount [.ref 0] Q X (put 20 σ μ) := by
  show go 276 3 0 0 mX10_requestCount Q X 0 [.ref 0] [] _
  have n1 : 1 ≤ su μ 0 7 := hS.2.2.2.2.2.2.2.2.2.2.2.2.2.2.1
  have n2 : su μ 0 7 ≤ 12 := hS.2.2.2.2.2.2.2.2.2.2.2.2.2.2.2.1
  have c4 : su μ 0 0 ≤ 4 := hS.2.1
  have h5 := hC.1.1
  have h16 := hC.1.2.1
  have h11 := hC.1.2.2.1
  have h12 : σ 11 0 ≤ 12 := by have := hC.1.2.2.2.1; omega
  have hS' := hS
  have hC' := hC
  refine go_aload_n (y := mX10_requestCount) (pc := 0) dX10_requestCount_0 rfl rfl ?_
  refine go_getR (y := mX10_requestCount) (pc := 1) dX10_requestCount_1 fl_X10_47 rfl rfl (by decide) ?_
  refine go_getR (y := mX10_requestCount) (pc := 4) dX10_requestCount_4 fl_X10_209 (ch_sh h20 0 (by decide)) rfl (ch_z (r := 0) h20 (by decide)) ?_
  refine go_cget (y := mX10_requestCount) (pc := 7) (r := 11) dX10_requestCount_7 fl_X10_255 h20 (by decide) rfl rfl (by decide) (fun r7 => ?_)
  refine go_ireturn (y := mX10_requestCount) (pc := 10) dX10_requestCount_10 rfl ?_
  exact K
set_option maxRecDepth 8000 in
set_option maxHeartbeats 4000000 in
theorem g_tips {σ μ : Mem} (hS : wfS (su μ)) (hC : wfC (su μ) σ) {Q : Option Value → Mem → Prop} {X : String → Mem → Prop} (K : Q (some (.int (iI (σ 0 7)))) (put 20 σ μ)) : mt 276 3 0 0 mX10_tips [.ref 0] Q X (put 20 σ μ) := by
  show go 276 3 0 0 mX10_tips Q X 0 [.ref 0] [] _
  have n1 : 1 ≤ su μ 0 7 := hS.2.2.2.2.2.2.2.2.2.2.2.2.2.2.1
  have n2 : su μ 0 7 ≤ 12 := hS.2.2.2.2.2.2.2.2.2.2.2.2.2.2.2.1
  have c4 : su μ 0 0 ≤ 4 := hS.2.1
  have h5 := hC.1.1
  have h16 := hC.1.2.1
  have h11 := hC.1.2.2.1
  have h12 : σ 11 0 ≤ 12 := by have := hC.1.2.2.2.1; omega
  have hS' := hS
  have hC' := hC
  refine go_aload_n (y := mX10_tips) (pc := 0) dX10_tips_0 rfl rfl ?_
  refine go_getR (y := mX10_tips) (pc := 1) dX10_tips_1 fl_X10_47 rfl rfl (by decide) ?_
  refine go_cget (y := mX10_tips) (pc := 4) (r := 0) dX10_tips_4 fl_X10_292 h20 (by decide) rfl rfl (by decide) (fun r4 => ?_)
  refine go_ireturn (y := mX10_tips) (pc := 7) dX10_tips_7 rfl ?_
  exact K
set_option maxRecDepth 8000 in
set_option maxHeartbeats 4000000 in
theorem g_voteCount {σ μ : Mem} (hS : wfS (su μ)) (hC : wfC (su μ) σ) {Q : Option Value → Mem → Prop} {X : String → Mem → Prop} (K : Q (some (.int (iI (σ 0 8)))) (put 20 σ μ)) : mt 276 3 0 0 mX10_voteCount [.ref 0] Q X (put 20 σ μ) := by
  show go 276 3 0 0 mX10_voteCount Q X 0 [.ref 0] [] _
  have n1 : 1 ≤ su μ 0 7 := hS.2.2.2.2.2.2.2.2.2.2.2.2.2.2.1
  have n2 : su μ 0 7 ≤ 12 := hS.2.2.2.2.2.2.2.2.2.2.2.2.2.2.2.1
  have c4 : su μ 0 0 ≤ 4 := hS.2.1
  have h5 := hC.1.1
  have h16 := hC.1.2.1
  have h11 := hC.1.2.2.1
  have h12 : σ 11 0 ≤ 12 := by have := hC.1.2.2.2.1; omega
  have hS' := hS
  have hC' := hC
  refine go_aload_n (y := mX10_voteCount) (pc := 0) dX10_voteCount_0 rfl rfl ?_
  refine go_getR (y := mX10_voteCount) (pc := 1) dX10_voteCount_1 fl_X10_47 rfl rfl (by decide) ?_
  refine go_cget (y := mX10_voteCount) (pc := 4) (r := 0) dX10_voteCount_4 fl_X10_295 h20 (by decide) rfl rfl (by decide) (fun r4 => ?_)
  refine go_ireturn (y := mX10_voteCount) (pc := 7) dX10_voteCount_7 rfl ?_
  exact K
set_option maxRecDepth 8000 in
set_option maxHeartbeats 4000000 in
theorem g_rebuttalCount {σ μ : Mem} (hS : wfS (su μ)) (hC : wfC (su μ) σ) {Q : Option Value → Mem → Prop} {X : String → Mem → Prop} (K : Q (some (.int (iI (σ 0 9)))) (put 20 σ μ)) : mt 276 3 0 0 mX10_rebuttalCount [.ref 0] Q X (put 20 σ μ) := by
  show go 276 3 0 0 mX10_rebuttalCount Q X 0 [.ref 0] [] _
  have n1 : 1 ≤ su μ 0 7 := hS.2.2.2.2.2.2.2.2.2.2.2.2.2.2.1
  have n2 : su μ 0 7 ≤ 12 := hS.2.2.2.2.2.2.2.2.2.2.2.2.2.2.2.1
  have c4 : su μ 0 0 ≤ 4 := hS.2.1
  have h5 := hC.1.1
  have h16 := hC.1.2.1
  have h11 := hC.1.2.2.1
  have h12 : σ 11 0 ≤ 12 := by have := hC.1.2.2.2.1; omega
  have hS' := hS
  have hC' := hC
  refine go_aload_n (y := mX10_rebuttalCount) (pc := 0) dX10_rebuttalCount_0 rfl rfl ?_
  refine go_getR (y := mX10_rebuttalCount) (pc := 1) dX10_rebuttalCount_1 fl_X10_47 rfl rfl (by decide) ?_
  refine go_cget (y := mX10_rebuttalCount) (pc := 4) (r := 0) dX10_rebuttalCount_4 fl_X10_298 h20 (by decide) rfl rfl (by decide) (fun r4 => ?_)
  refine go_ireturn (y := mX10_rebuttalCount) (pc := 7) dX10_rebuttalCount_7 rfl ?_
  exact K
set_option maxRecDepth 8000 in
set_option maxHeartbeats 4000000 in
theorem g_contradictions {σ μ : Mem} (hS : wfS (su μ)) (hC : wfC (su μ) σ) {Q : Option Value → Mem → Prop} {X : String → Mem → Prop} (K : Q (some (.int (iI (ctr (su μ) σ)))) (put 20 σ μ)) : mt 276 3 0 0 mX10_contradictions [.ref 0] Q X (put 20 σ μ) := by
  show go 276 3 0 0 mX10_contradictions Q X 0 [.ref 0] [] _
  have n1 : 1 ≤ su μ 0 7 := hS.2.2.2.2.2.2.2.2.2.2.2.2.2.2.1
  have n2 : su μ 0 7 ≤ 12 := hS.2.2.2.2.2.2.2.2.2.2.2.2.2.2.2.1
  have c4 : su μ 0 0 ≤ 4 := hS.2.1
  have h5 := hC.1.1
  have h16 := hC.1.2.1
  have h11 := hC.1.2.2.1
  have h12 : σ 11 0 ≤ 12 := by have := hC.1.2.2.2.1; omega
  have hS' := hS
  have hC' := hC
  refine go_aload_n (y := mX10_contradictions) (pc := 0) dX10_contradictions_0 rfl rfl ?_
  refine go_getR (y := mX10_contradictions) (pc := 1) dX10_contradictions_1 fl_X10_47 rfl rfl (by decide) ?_
  refine go_callV0 (y := mX10_contradictions) (pc := 4) (y' := mX1_countContradictions) (kc2 := 0) (ks2 := 0) dX10_contradictions_4 ml_X10_309 ok_X1_countContradictions (ch_sh h20 0 (by decide)) ⟨_, _, rfl⟩ (ch_z (r := 0) h20 (by decide)) trivial (by decide) (Nat.le_of_ble_eq_true rfl) rfl (c_countContradictions h20 hS hC ?_)
  refine go_ireturn (y := mX10_contradictions) (pc := 7) dX10_contradictions_7 rfl ?_
  exact K
set_option maxRecDepth 8000 in
set_option maxHeartbeats 4000000 in
theorem g_undoCount {σ μ : Mem} (hS : wfS (su μ)) (hC : wfC (su μ) σ) {Q : Option Value → Mem → Prop} {X : String → Mem → Prop} (K : Q (some (.int (iI (μ 62 2)))) (put 20 σ μ)) : mt 276 3 0 0 mX10_undoCount [.ref 0] Q X (put 20 σ μ) := by
  show go 276 3 0 0 mX10_undoCount Q X 0 [.ref 0] [] _
  have n1 : 1 ≤ su μ 0 7 := hS.2.2.2.2.2.2.2.2.2.2.2.2.2.2.1
  have n2 : su μ 0 7 ≤ 12 := hS.2.2.2.2.2.2.2.2.2.2.2.2.2.2.2.1
  have c4 : su μ 0 0 ≤ 4 := hS.2.1
  have h5 := hC.1.1
  have h16 := hC.1.2.1
  have h11 := hC.1.2.2.1
  have h12 : σ 11 0 ≤ 12 := by have := hC.1.2.2.2.1; omega
  have hS' := hS
  have hC' := hC
  refine go_aload_n (y := mX10_undoCount) (pc := 0) dX10_undoCount_0 rfl rfl ?_
  refine go_getR (y := mX10_undoCount) (pc := 1) dX10_undoCount_1 fl_X10_57 rfl rfl (by decide) ?_
  refine go_bget (y := mX10_undoCount) (pc := 4) dX10_undoCount_4 fl_X10_397 rfl rfl (by decide) (by decide) (fun r4 => ?_)
  refine go_ireturn (y := mX10_undoCount) (pc := 7) dX10_undoCount_7 rfl ?_
  exact K
set_option maxRecDepth 8000 in
set_option maxHeartbeats 4000000 in
theorem g_errorPosition {σ μ : Mem} (hS : wfS (su μ)) (hC : wfC (su μ) σ) {Q : Option Value → Mem → Prop} {X : String → Mem → Prop} (K : Q (some (.int (iI (μ 3 5)))) (put 20 σ μ)) : mt 276 3 0 0 mX10_errorPosition [.ref 0] Q X (put 20 σ μ) := by
  show go 276 3 0 0 mX10_errorPosition Q X 0 [.ref 0] [] _
  have n1 : 1 ≤ su μ 0 7 := hS.2.2.2.2.2.2.2.2.2.2.2.2.2.2.1
  have n2 : su μ 0 7 ≤ 12 := hS.2.2.2.2.2.2.2.2.2.2.2.2.2.2.2.1
  have c4 : su μ 0 0 ≤ 4 := hS.2.1
  have h5 := hC.1.1
  have h16 := hC.1.2.1
  have h11 := hC.1.2.2.1
  have h12 : σ 11 0 ≤ 12 := by have := hC.1.2.2.2.1; omega
  have hS' := hS
  have hC' := hC
  refine go_aload_n (y := mX10_errorPosition) (pc := 0) dX10_errorPosition_0 rfl rfl ?_
  refine go_getR (y := mX10_errorPosition) (pc := 1) dX10_errorPosition_1 fl_X10_21 rfl rfl (by decide) ?_
  refine go_bget (y := mX10_errorPosition) (pc := 4) dX10_errorPosition_4 fl_X10_153 rfl rfl (by decide) (by decide) (fun r4 => ?_)
  refine go_ireturn (y := mX10_errorPosition) (pc := 7) dX10_errorPosition_7 rfl ?_
  exact K
set_option maxRecDepth 8000 in
set_option maxHeartbeats 4000000 in
theorem g_weight {σ μ : Mem} {m : Int} (hm : rng m) (hS : wfS (su μ)) (hC : wfC (su μ) σ) {Q : Option Value → Mem → Prop} {X : String → Mem → Prop} (K : ∀ k : Nat, m = k → (k : Int) < su μ 0 7 → Q (some (.int (iI (su μ 2 k)))) (put 20 σ μ)) (K2 : ¬ (0 ≤ m ∧ m < su μ 0 7) → X "java/lang/IndexOutOfBoundsException" (put 20 σ μ)) : mt 276 7 1 6 mX10_weight [.ref 0, .int (iI m)] Q X (put 20 σ μ) := by
  show go 276 7 1 6 mX10_weight Q X 0 [.ref 0, .int (iI m)] [] _
  have n1 : 1 ≤ su μ 0 7 := hS.2.2.2.2.2.2.2.2.2.2.2.2.2.2.1
  have n2 : su μ 0 7 ≤ 12 := hS.2.2.2.2.2.2.2.2.2.2.2.2.2.2.2.1
  have c4 : su μ 0 0 ≤ 4 := hS.2.1
  have h5 := hC.1.1
  have h16 := hC.1.2.1
  have h11 := hC.1.2.2.1
  have h12 : σ 11 0 ≤ 12 := by have := hC.1.2.2.2.1; omega
  have hS' := hS
  have hC' := hC
  by_cases g : 0 ≤ m ∧ m < su μ 0 7
  · obtain ⟨k, rfl⟩ := Int.eq_ofNat_of_zero_le g.1
    have g2 := g.2
    refine go_aload_n (y := mX10_weight) (pc := 0) dX10_weight_0 rfl rfl ?_
    refine go_iload_n (y := mX10_weight) (pc := 1) dX10_weight_1 rfl rfl ?_
    refine go_callV1 (y := mX10_weight) (pc := 2) (y' := mX10_requireMember) (kc2 := 0) (ks2 := 0) dX10_weight_2 ml_X10_166 ok_X10_requireMember (show shp 0 = _ from rfl) ⟨_, _, rfl⟩ (by decide) rfl (by decide) (Nat.le_of_ble_eq_true rfl) rfl (g_requireMember (by omega) (fun _ => ?_) (fun h9 => absurd g h9))
    refine go_aload_n (y := mX10_weight) (pc := 5) dX10_weight_5 rfl rfl ?_
    refine go_getR (y := mX10_weight) (pc := 6) dX10_weight_6 fl_X10_35 rfl rfl (by decide) ?_
    refine go_getR (y := mX10_weight) (pc := 9) dX10_weight_9 fl_X10_169 rfl rfl (by decide) ?_
    refine go_iload_n (y := mX10_weight) (pc := 12) dX10_weight_12 rfl rfl ?_
    refine go_sial (y := mX10_weight) (pc := 13) (r := 2) (k := k) dX10_weight_13 h20 (by decide) rfl (by decide) rfl (by omega) (by decide) (fun r13 => ?_)
    refine go_ireturn (y := mX10_weight) (pc := 14) dX10_weight_14 rfl ?_
    exact K k rfl (by omega)
  · skip
    refine go_aload_n (y := mX10_weight) (pc := 0) dX10_weight_0 rfl rfl ?_
    refine go_iload_n (y := mX10_weight) (pc := 1) dX10_weight_1 rfl rfl ?_
    refine go_callV1 (y := mX10_weight) (pc := 2) (y' := mX10_requireMember) (kc2 := 0) (ks2 := 0) dX10_weight_2 ml_X10_166 ok_X10_requireMember (show shp 0 = _ from rfl) ⟨_, _, rfl⟩ (by decide) rfl (by decide) (Nat.le_of_ble_eq_true rfl) rfl (g_requireMember (by omega) (fun h9 => absurd h9 g) (fun _ => K2 g))
set_option maxRecDepth 8000 in
set_option maxHeartbeats 4000000 in
theorem g_purse {σ μ : Mem} {m : Int} (hm : rng m) (hS : wfS (su μ)) (hC : wfC (su μ) σ) {Q : Option Value → Mem → Prop} {X : String → Mem → Prop} (K : ∀ k : Nat, m = k → (k : Int) < su μ 0 7 → Q (some (.int (iI (σ 2 k)))) (put 20 σ μ)) (K2 : ¬ (0 ≤ m ∧ m < su μ 0 7) → X "java/lang/IndexOutOfBoundsException" (put 20 σ μ)) : mt 276 7 1 6 mX10_purse [.ref 0, .int (iI m)] Q X (put 20 σ μ) := by
  show go 276 7 1 6 mX10_purse Q X 0 [.ref 0, .int (iI m)] [] _
  have n1 : 1 ≤ su μ 0 7 := hS.2.2.2.2.2.2.2.2.2.2.2.2.2.2.1
  have n2 : su μ 0 7 ≤ 12 := hS.2.2.2.2.2.2.2.2.2.2.2.2.2.2.2.1
  have c4 : su μ 0 0 ≤ 4 := hS.2.1
  have h5 := hC.1.1
  have h16 := hC.1.2.1
  have h11 := hC.1.2.2.1
  have h12 : σ 11 0 ≤ 12 := by have := hC.1.2.2.2.1; omega
  have hS' := hS
  have hC' := hC
  by_cases g : 0 ≤ m ∧ m < su μ 0 7
  · obtain ⟨k, rfl⟩ := Int.eq_ofNat_of_zero_le g.1
    have g2 := g.2
    refine go_aload_n (y := mX10_purse) (pc := 0) dX10_purse_0 rfl rfl ?_
    refine go_iload_n (y := mX10_purse) (pc := 1) dX10_purse_1 rfl rfl ?_
    refine go_callV1 (y := mX10_purse) (pc := 2) (y' := mX10_requireMember) (kc2 := 0) (ks2 := 0) dX10_purse_2 ml_X10_166 ok_X10_requireMember (show shp 0 = _ from rfl) ⟨_, _, rfl⟩ (by decide) rfl (by decide) (Nat.le_of_ble_eq_true rfl) rfl (g_requireMember (by omega) (fun _ => ?_) (fun h9 => absurd g h9))
    refine go_aload_n (y := mX10_purse) (pc := 5) dX10_purse_5 rfl rfl ?_
    refine go_getR (y := mX10_purse) (pc := 6) dX10_purse_6 fl_X10_47 rfl rfl (by decide) ?_
    refine go_getR (y := mX10_purse) (pc := 9) dX10_purse_9 fl_X10_173 (ch_sh h20 0 (by decide)) rfl (ch_z (r := 0) h20 (by decide)) ?_
    refine go_getR (y := mX10_purse) (pc := 12) dX10_purse_12 fl_X10_177 (ch_sh h20 1 (by decide)) rfl (ch_z (r := 1) h20 (by decide)) ?_
    refine go_iload_n (y := mX10_purse) (pc := 15) dX10_purse_15 rfl rfl ?_
    refine go_cial (y := mX10_purse) (pc := 16) (r := 2) (k := k) dX10_purse_16 h20 (by decide) rfl (by decide) rfl (by omega) (by decide) (fun r16 => ?_)
    refine go_ireturn (y := mX10_purse) (pc := 17) dX10_purse_17 rfl ?_
    exact K k rfl (by omega)
  · skip
    refine go_aload_n (y := mX10_purse) (pc := 0) dX10_purse_0 rfl rfl ?_
    refine go_iload_n (y := mX10_purse) (pc := 1) dX10_purse_1 rfl rfl ?_
    refine go_callV1 (y := mX10_purse) (pc := 2) (y' := mX10_requireMember) (kc2 := 0) (ks2 := 0) dX10_purse_2 ml_X10_166 ok_X10_requireMember (show shp 0 = _ from rfl) ⟨_, _, rfl⟩ (by decide) rfl (by decide) (Nat.le_of_ble_eq_true rfl) rfl (g_requireMember (by omega) (fun h9 => absurd h9 g) (fun _ => K2 g))
set_option maxRecDepth 8000 in
set_option maxHeartbeats 4000000 in
theorem g_sharpness {σ μ : Mem} {m : Int} (hm : rng m) (hS : wfS (su μ)) (hC : wfC (su μ) σ) {Q : Option Value → Mem → Prop} {X : String → Mem → Prop} (K : ∀ k : Nat, m = k → (k : Int) < su μ 0 7 → Q (some (.int (iI (σ 3 k)))) (put 20 σ μ)) (K2 : ¬ (0 ≤ m ∧ m < su μ 0 7) → X "java/lang/IndexOutOfBoundsException" (put 20 σ μ)) : mt 276 7 1 6 mX10_sharpness [.ref 0, .int (iI m)] Q X (put 20 σ μ) := by
  show go 276 7 1 6 mX10_sharpness Q X 0 [.ref 0, .int (iI m)] [] _
  have n1 : 1 ≤ su μ 0 7 := hS.2.2.2.2.2.2.2.2.2.2.2.2.2.2.1
  have n2 : su μ 0 7 ≤ 12 := hS.2.2.2.2.2.2.2.2.2.2.2.2.2.2.2.1
  have c4 : su μ 0 0 ≤ 4 := hS.2.1
  have h5 := hC.1.1
  have h16 := hC.1.2.1
  have h11 := hC.1.2.2.1
  have h12 : σ 11 0 ≤ 12 := by have := hC.1.2.2.2.1; omega
  have hS' := hS
  have hC' := hC
  by_cases g : 0 ≤ m ∧ m < su μ 0 7
  · obtain ⟨k, rfl⟩ := Int.eq_ofNat_of_zero_le g.1
    have g2 := g.2
    refine go_aload_n (y := mX10_sharpness) (pc := 0) dX10_sharpness_0 rfl rfl ?_
    refine go_iload_n (y := mX10_sharpness) (pc := 1) dX10_sharpness_1 rfl rfl ?_
    refine go_callV1 (y := mX10_sharpness) (pc := 2) (y' := mX10_requireMember) (kc2 := 0) (ks2 := 0) dX10_sharpness_2 ml_X10_166 ok_X10_requireMember (show shp 0 = _ from rfl) ⟨_, _, rfl⟩ (by decide) rfl (by decide) (Nat.le_of_ble_eq_true rfl) rfl (g_requireMember (by omega) (fun _ => ?_) (fun h9 => absurd g h9))
    refine go_aload_n (y := mX10_sharpness) (pc := 5) dX10_sharpness_5 rfl rfl ?_
    refine go_getR (y := mX10_sharpness) (pc := 6) dX10_sharpness_6 fl_X10_47 rfl rfl (by decide) ?_
    refine go_getR (y := mX10_sharpness) (pc := 9) dX10_sharpness_9 fl_X10_173 (ch_sh h20 0 (by decide)) rfl (ch_z (r := 0) h20 (by decide)) ?_
    refine go_getR (y := mX10_sharpness) (pc := 12) dX10_sharpness_12 fl_X10_182 (ch_sh h20 1 (by decide)) rfl (ch_z (r := 1) h20 (by decide)) ?_
    refine go_iload_n (y := mX10_sharpness) (pc := 15) dX10_sharpness_15 rfl rfl ?_
    refine go_cial (y := mX10_sharpness) (pc := 16) (r := 3) (k := k) dX10_sharpness_16 h20 (by decide) rfl (by decide) rfl (by omega) (by decide) (fun r16 => ?_)
    refine go_ireturn (y := mX10_sharpness) (pc := 17) dX10_sharpness_17 rfl ?_
    exact K k rfl (by omega)
  · skip
    refine go_aload_n (y := mX10_sharpness) (pc := 0) dX10_sharpness_0 rfl rfl ?_
    refine go_iload_n (y := mX10_sharpness) (pc := 1) dX10_sharpness_1 rfl rfl ?_
    refine go_callV1 (y := mX10_sharpness) (pc := 2) (y' := mX10_requireMember) (kc2 := 0) (ks2 := 0) dX10_sharpness_2 ml_X10_166 ok_X10_requireMember (show shp 0 = _ from rfl) ⟨_, _, rfl⟩ (by decide) rfl (by decide) (Nat.le_of_ble_eq_true rfl) rfl (g_requireMember (by omega) (fun h9 => absurd h9 g) (fun _ => K2 g))
set_option maxRecDepth 8000 in
set_option maxHeartbeats 4000000 in
theorem g_speechesOf {σ μ : Mem} {m : Int} (hm : rng m) (hS : wfS (su μ)) (hC : wfC (su μ) σ) {Q : Option Value → Mem → Prop} {X : String → Mem → Prop} (K : ∀ k : Nat, m = k → (k : Int) < su μ 0 7 → Q (some (.int (iI (σ 4 k)))) (put 20 σ μ)) (K2 : ¬ (0 ≤ m ∧ m < su μ 0 7) → X "java/lang/IndexOutOfBoundsException" (put 20 σ μ)) : mt 276 7 1 6 mX10_speechesOf [.ref 0, .int (iI m)] Q X (put 20 σ μ) := by
  show go 276 7 1 6 mX10_speechesOf Q X 0 [.ref 0, .int (iI m)] [] _
  have n1 : 1 ≤ su μ 0 7 := hS.2.2.2.2.2.2.2.2.2.2.2.2.2.2.1
  have n2 : su μ 0 7 ≤ 12 := hS.2.2.2.2.2.2.2.2.2.2.2.2.2.2.2.1
  have c4 : su μ 0 0 ≤ 4 := hS.2.1
  have h5 := hC.1.1
  have h16 := hC.1.2.1
  have h11 := hC.1.2.2.1
  have h12 : σ 11 0 ≤ 12 := by have := hC.1.2.2.2.1; omega
  have hS' := hS
  have hC' := hC
  by_cases g : 0 ≤ m ∧ m < su μ 0 7
  · obtain ⟨k, rfl⟩ := Int.eq_ofNat_of_zero_le g.1
    have g2 := g.2
    refine go_aload_n (y := mX10_speechesOf) (pc := 0) dX10_speechesOf_0 rfl rfl ?_
    refine go_iload_n (y := mX10_speechesOf) (pc := 1) dX10_speechesOf_1 rfl rfl ?_
    refine go_callV1 (y := mX10_speechesOf) (pc := 2) (y' := mX10_requireMember) (kc2 := 0) (ks2 := 0) dX10_speechesOf_2 ml_X10_166 ok_X10_requireMember (show shp 0 = _ from rfl) ⟨_, _, rfl⟩ (by decide) rfl (by decide) (Nat.le_of_ble_eq_true rfl) rfl (g_requireMember (by omega) (fun _ => ?_) (fun h9 => absurd g h9))
    refine go_aload_n (y := mX10_speechesOf) (pc := 5) dX10_speechesOf_5 rfl rfl ?_
    refine go_getR (y := mX10_speechesOf) (pc := 6) dX10_speechesOf_6 fl_X10_47 rfl rfl (by decide) ?_
    refine go_getR (y := mX10_speechesOf) (pc := 9) dX10_speechesOf_9 fl_X10_173 (ch_sh h20 0 (by decide)) rfl (ch_z (r := 0) h20 (by decide)) ?_
    refine go_getR (y := mX10_speechesOf) (pc := 12) dX10_speechesOf_12 fl_X10_185 (ch_sh h20 1 (by decide)) rfl (ch_z (r := 1) h20 (by decide)) ?_
    refine go_iload_n (y := mX10_speechesOf) (pc := 15) dX10_speechesOf_15 rfl rfl ?_
    refine go_cial (y := mX10_speechesOf) (pc := 16) (r := 4) (k := k) dX10_speechesOf_16 h20 (by decide) rfl (by decide) rfl (by omega) (by decide) (fun r16 => ?_)
    refine go_ireturn (y := mX10_speechesOf) (pc := 17) dX10_speechesOf_17 rfl ?_
    exact K k rfl (by omega)
  · skip
    refine go_aload_n (y := mX10_speechesOf) (pc := 0) dX10_speechesOf_0 rfl rfl ?_
    refine go_iload_n (y := mX10_speechesOf) (pc := 1) dX10_speechesOf_1 rfl rfl ?_
    refine go_callV1 (y := mX10_speechesOf) (pc := 2) (y' := mX10_requireMember) (kc2 := 0) (ks2 := 0) dX10_speechesOf_2 ml_X10_166 ok_X10_requireMember (show shp 0 = _ from rfl) ⟨_, _, rfl⟩ (by decide) rfl (by decide) (Nat.le_of_ble_eq_true rfl) rfl (g_requireMember (by omega) (fun h9 => absurd h9 g) (fun _ => K2 g))
set_option maxRecDepth 8000 in
set_option maxHeartbeats 4000000 in
theorem g_chairOf {σ μ : Mem} {m : Int} (hm : rng m) (hS : wfS (su μ)) (hC : wfC (su μ) σ) {Q : Option Value → Mem → Prop} {X : String → Mem → Prop} (K : ∀ k : Nat, m = k → (k : Int) < su μ 0 7 → Q (some (.int (iI (tkn σ k)))) (put 20 σ μ)) (K2 : ¬ (0 ≤ m ∧ m < su μ 0 7) → X "java/lang/IndexOutOfBoundsException" (put 20 σ μ)) : mt 276 7 1 6 mX10_chairOf [.ref 0, .int (iI m)] Q X (put 20 σ μ) := by
  show go 276 7 1 6 mX10_chairOf Q X 0 [.ref 0, .int (iI m)] [] _
  have n1 : 1 ≤ su μ 0 7 := hS.2.2.2.2.2.2.2.2.2.2.2.2.2.2.1
  have n2 : su μ 0 7 ≤ 12 := hS.2.2.2.2.2.2.2.2.2.2.2.2.2.2.2.1
  have c4 : su μ 0 0 ≤ 4 := hS.2.1
  have h5 := hC.1.1
  have h16 := hC.1.2.1
  have h11 := hC.1.2.2.1
  have h12 : σ 11 0 ≤ 12 := by have := hC.1.2.2.2.1; omega
  have hS' := hS
  have hC' := hC
  by_cases g : 0 ≤ m ∧ m < su μ 0 7
  · obtain ⟨k, rfl⟩ := Int.eq_ofNat_of_zero_le g.1
    have g2 := g.2
    refine go_aload_n (y := mX10_chairOf) (pc := 0) dX10_chairOf_0 rfl rfl ?_
    refine go_iload_n (y := mX10_chairOf) (pc := 1) dX10_chairOf_1 rfl rfl ?_
    refine go_callV1 (y := mX10_chairOf) (pc := 2) (y' := mX10_requireMember) (kc2 := 0) (ks2 := 0) dX10_chairOf_2 ml_X10_166 ok_X10_requireMember (show shp 0 = _ from rfl) ⟨_, _, rfl⟩ (by decide) rfl (by decide) (Nat.le_of_ble_eq_true rfl) rfl (g_requireMember (by omega) (fun _ => ?_) (fun h9 => absurd g h9))
    refine go_aload_n (y := mX10_chairOf) (pc := 5) dX10_chairOf_5 rfl rfl ?_
    refine go_getR (y := mX10_chairOf) (pc := 6) dX10_chairOf_6 fl_X10_47 rfl rfl (by decide) ?_
    refine go_getR (y := mX10_chairOf) (pc := 9) dX10_chairOf_9 fl_X10_200 (ch_sh h20 0 (by decide)) rfl (ch_z (r := 0) h20 (by decide)) ?_
    refine go_iload_n (y := mX10_chairOf) (pc := 12) dX10_chairOf_12 rfl rfl ?_
    refine go_callV1 (y := mX10_chairOf) (pc := 13) (y' := mX0_takenBy) (kc2 := 0) (ks2 := 0) dX10_chairOf_13 ml_X10_204 ok_X0_takenBy (ch_sh h20 15 (by decide)) ⟨_, _, rfl⟩ (ch_z (r := 15) h20 (by decide)) rfl (by decide) (Nat.le_of_ble_eq_true rfl) rfl (c_takenBy h20 (by omega) (fun v13 e13 b13 => ?_))
    refine go_ireturn (y := mX10_chairOf) (pc := 16) dX10_chairOf_16 rfl ?_
    rw [e13]
    exact K k rfl (by omega)
  · skip
    refine go_aload_n (y := mX10_chairOf) (pc := 0) dX10_chairOf_0 rfl rfl ?_
    refine go_iload_n (y := mX10_chairOf) (pc := 1) dX10_chairOf_1 rfl rfl ?_
    refine go_callV1 (y := mX10_chairOf) (pc := 2) (y' := mX10_requireMember) (kc2 := 0) (ks2 := 0) dX10_chairOf_2 ml_X10_166 ok_X10_requireMember (show shp 0 = _ from rfl) ⟨_, _, rfl⟩ (by decide) rfl (by decide) (Nat.le_of_ble_eq_true rfl) rfl (g_requireMember (by omega) (fun h9 => absurd h9 g) (fun _ => K2 g))
set_option maxRecDepth 8000 in
set_option maxHeartbeats 4000000 in
theorem g_placeInList {σ μ : Mem} {m : Int} (hm : rng m) (hS : wfS (su μ)) (hC : wfC (su μ) σ) {Q : Option Value → Mem → Prop} {X : String → Mem → Prop} (K : ∀ k : Nat, m = k → (k : Int) < su μ 0 7 → Q (some (.int (iI (plc σ k)))) (put 20 σ μ)) (K2 : ¬ (0 ≤ m ∧ m < su μ 0 7) → X "java/lang/IndexOutOfBoundsException" (put 20 σ μ)) : mt 276 7 1 6 mX10_placeInList [.ref 0, .int (iI m)] Q X (put 20 σ μ) := by
  show go 276 7 1 6 mX10_placeInList Q X 0 [.ref 0, .int (iI m)] [] _
  have n1 : 1 ≤ su μ 0 7 := hS.2.2.2.2.2.2.2.2.2.2.2.2.2.2.1
  have n2 : su μ 0 7 ≤ 12 := hS.2.2.2.2.2.2.2.2.2.2.2.2.2.2.2.1
  have c4 : su μ 0 0 ≤ 4 := hS.2.1
  have h5 := hC.1.1
  have h16 := hC.1.2.1
  have h11 := hC.1.2.2.1
  have h12 : σ 11 0 ≤ 12 := by have := hC.1.2.2.2.1; omega
  have hS' := hS
  have hC' := hC
  by_cases g : 0 ≤ m ∧ m < su μ 0 7
  · obtain ⟨k, rfl⟩ := Int.eq_ofNat_of_zero_le g.1
    have g2 := g.2
    refine go_aload_n (y := mX10_placeInList) (pc := 0) dX10_placeInList_0 rfl rfl ?_
    refine go_iload_n (y := mX10_placeInList) (pc := 1) dX10_placeInList_1 rfl rfl ?_
    refine go_callV1 (y := mX10_placeInList) (pc := 2) (y' := mX10_requireMember) (kc2 := 0) (ks2 := 0) dX10_placeInList_2 ml_X10_166 ok_X10_requireMember (show shp 0 = _ from rfl) ⟨_, _, rfl⟩ (by decide) rfl (by decide) (Nat.le_of_ble_eq_true rfl) rfl (g_requireMember (by omega) (fun _ => ?_) (fun h9 => absurd g h9))
    refine go_aload_n (y := mX10_placeInList) (pc := 5) dX10_placeInList_5 rfl rfl ?_
    refine go_getR (y := mX10_placeInList) (pc := 6) dX10_placeInList_6 fl_X10_47 rfl rfl (by decide) ?_
    refine go_getR (y := mX10_placeInList) (pc := 9) dX10_placeInList_9 fl_X10_209 (ch_sh h20 0 (by decide)) rfl (ch_z (r := 0) h20 (by decide)) ?_
    refine go_iload_n (y := mX10_placeInList) (pc := 12) dX10_placeInList_12 rfl rfl ?_
    refine go_callV1 (y := mX10_placeInList) (pc := 13) (y' := mX5_placeOf) (kc2 := 0) (ks2 := 0) dX10_placeInList_13 ml_X10_213 ok_X5_placeOf (ch_sh h20 11 (by decide)) ⟨_, _, rfl⟩ (ch_z (r := 11) h20 (by decide)) rfl (by decide) (Nat.le_of_ble_eq_true rfl) rfl (c_placeOf h20 (by omega) h11 h12 (fun v13 e13 b13 => ?_))
    refine go_ireturn (y := mX10_placeInList) (pc := 16) dX10_placeInList_16 rfl ?_
    rw [e13]
    exact K k rfl (by omega)
  · skip
    refine go_aload_n (y := mX10_placeInList) (pc := 0) dX10_placeInList_0 rfl rfl ?_
    refine go_iload_n (y := mX10_placeInList) (pc := 1) dX10_placeInList_1 rfl rfl ?_
    refine go_callV1 (y := mX10_placeInList) (pc := 2) (y' := mX10_requireMember) (kc2 := 0) (ks2 := 0) dX10_placeInList_2 ml_X10_166 ok_X10_requireMember (show shp 0 = _ from rfl) ⟨_, _, rfl⟩ (by decide) rfl (by decide) (Nat.le_of_ble_eq_true rfl) rfl (g_requireMember (by omega) (fun h9 => absurd h9 g) (fun _ => K2 g))
set_option maxRecDepth 8000 in
set_option maxHeartbeats 4000000 in
theorem g_proposer {σ μ : Mem} {m : Int} (hm : rng m) (hS : wfS (su μ)) (hC : wfC (su μ) σ) {Q : Option Value → Mem → Prop} {X : String → Mem → Prop} (K : ∀ k : Nat, m = k → (k : Int) < σ 5 0 → Q (some (.int (iI (σ 6 k)))) (put 20 σ μ)) (K2 : ¬ (0 ≤ m ∧ m < σ 5 0) → X "java/lang/IndexOutOfBoundsException" (put 20 σ μ)) : mt 276 7 1 6 mX10_proposer [.ref 0, .int (iI m)] Q X (put 20 σ μ) := by
  show go 276 7 1 6 mX10_proposer Q X 0 [.ref 0, .int (iI m)] [] _
  have n1 : 1 ≤ su μ 0 7 := hS.2.2.2.2.2.2.2.2.2.2.2.2.2.2.1
  have n2 : su μ 0 7 ≤ 12 := hS.2.2.2.2.2.2.2.2.2.2.2.2.2.2.2.1
  have c4 : su μ 0 0 ≤ 4 := hS.2.1
  have h5 := hC.1.1
  have h16 := hC.1.2.1
  have h11 := hC.1.2.2.1
  have h12 : σ 11 0 ≤ 12 := by have := hC.1.2.2.2.1; omega
  have hS' := hS
  have hC' := hC
  by_cases g : 0 ≤ m ∧ m < σ 5 0
  · obtain ⟨k, rfl⟩ := Int.eq_ofNat_of_zero_le g.1
    have g2 := g.2
    refine go_aload_n (y := mX10_proposer) (pc := 0) dX10_proposer_0 rfl rfl ?_
    refine go_iload_n (y := mX10_proposer) (pc := 1) dX10_proposer_1 rfl rfl ?_
    refine go_callV1 (y := mX10_proposer) (pc := 2) (y' := mX10_requireMotion) (kc2 := 0) (ks2 := 0) dX10_proposer_2 ml_X10_188 ok_X10_requireMotion (show shp 0 = _ from rfl) ⟨_, _, rfl⟩ (by decide) rfl (by decide) (Nat.le_of_ble_eq_true rfl) rfl (g_requireMotion (by omega) (fun _ => ?_) (fun h9 => absurd g h9))
    refine go_aload_n (y := mX10_proposer) (pc := 5) dX10_proposer_5 rfl rfl ?_
    refine go_getR (y := mX10_proposer) (pc := 6) dX10_proposer_6 fl_X10_47 rfl rfl (by decide) ?_
    refine go_getR (y := mX10_proposer) (pc := 9) dX10_proposer_9 fl_X10_191 (ch_sh h20 0 (by decide)) rfl (ch_z (r := 0) h20 (by decide)) ?_
    refine go_getR (y := mX10_proposer) (pc := 12) dX10_proposer_12 fl_X10_219 (ch_sh h20 5 (by decide)) rfl (ch_z (r := 5) h20 (by decide)) ?_
    refine go_iload_n (y := mX10_proposer) (pc := 15) dX10_proposer_15 rfl rfl ?_
    refine go_cial (y := mX10_proposer) (pc := 16) (r := 6) (k := k) dX10_proposer_16 h20 (by decide) rfl (by decide) rfl (by omega) (by decide) (fun r16 => ?_)
    refine go_ireturn (y := mX10_proposer) (pc := 17) dX10_proposer_17 rfl ?_
    exact K k rfl (by omega)
  · skip
    refine go_aload_n (y := mX10_proposer) (pc := 0) dX10_proposer_0 rfl rfl ?_
    refine go_iload_n (y := mX10_proposer) (pc := 1) dX10_proposer_1 rfl rfl ?_
    refine go_callV1 (y := mX10_proposer) (pc := 2) (y' := mX10_requireMotion) (kc2 := 0) (ks2 := 0) dX10_proposer_2 ml_X10_188 ok_X10_requireMotion (show shp 0 = _ from rfl) ⟨_, _, rfl⟩ (by decide) rfl (by decide) (Nat.le_of_ble_eq_true rfl) rfl (g_requireMotion (by omega) (fun h9 => absurd h9 g) (fun _ => K2 g))
set_option maxRecDepth 8000 in
set_option maxHeartbeats 4000000 in
theorem g_motionState {σ μ : Mem} {m : Int} (hm : rng m) (hS : wfS (su μ)) (hC : wfC (su μ) σ) {Q : Option Value → Mem → Prop} {X : String → Mem → Prop} (K : ∀ k : Nat, m = k → (k : Int) < σ 5 0 → Q (some (.int (iI (σ 7 k)))) (put 20 σ μ)) (K2 : ¬ (0 ≤ m ∧ m < σ 5 0) → X "java/lang/IndexOutOfBoundsException" (put 20 σ μ)) : mt 276 7 1 6 mX10_motionState [.ref 0, .int (iI m)] Q X (put 20 σ μ) := by
  show go 276 7 1 6 mX10_motionState Q X 0 [.ref 0, .int (iI m)] [] _
  have n1 : 1 ≤ su μ 0 7 := hS.2.2.2.2.2.2.2.2.2.2.2.2.2.2.1
  have n2 : su μ 0 7 ≤ 12 := hS.2.2.2.2.2.2.2.2.2.2.2.2.2.2.2.1
  have c4 : su μ 0 0 ≤ 4 := hS.2.1
  have h5 := hC.1.1
  have h16 := hC.1.2.1
  have h11 := hC.1.2.2.1
  have h12 : σ 11 0 ≤ 12 := by have := hC.1.2.2.2.1; omega
  have hS' := hS
  have hC' := hC
  by_cases g : 0 ≤ m ∧ m < σ 5 0
  · obtain ⟨k, rfl⟩ := Int.eq_ofNat_of_zero_le g.1
    have g2 := g.2
    refine go_aload_n (y := mX10_motionState) (pc := 0) dX10_motionState_0 rfl rfl ?_
    refine go_iload_n (y := mX10_motionState) (pc := 1) dX10_motionState_1 rfl rfl ?_
    refine go_callV1 (y := mX10_motionState) (pc := 2) (y' := mX10_requireMotion) (kc2 := 0) (ks2 := 0) dX10_motionState_2 ml_X10_188 ok_X10_requireMotion (show shp 0 = _ from rfl) ⟨_, _, rfl⟩ (by decide) rfl (by decide) (Nat.le_of_ble_eq_true rfl) rfl (g_requireMotion (by omega) (fun _ => ?_) (fun h9 => absurd g h9))
    refine go_aload_n (y := mX10_motionState) (pc := 5) dX10_motionState_5 rfl rfl ?_
    refine go_getR (y := mX10_motionState) (pc := 6) dX10_motionState_6 fl_X10_47 rfl rfl (by decide) ?_
    refine go_getR (y := mX10_motionState) (pc := 9) dX10_motionState_9 fl_X10_191 (ch_sh h20 0 (by decide)) rfl (ch_z (r := 0) h20 (by decide)) ?_
    refine go_getR (y := mX10_motionState) (pc := 12) dX10_motionState_12 fl_X10_222 (ch_sh h20 5 (by decide)) rfl (ch_z (r := 5) h20 (by decide)) ?_
    refine go_iload_n (y := mX10_motionState) (pc := 15) dX10_motionState_15 rfl rfl ?_
    refine go_cial (y := mX10_motionState) (pc := 16) (r := 7) (k := k) dX10_motionState_16 h20 (by decide) rfl (by decide) rfl (by omega) (by decide) (fun r16 => ?_)
    refine go_ireturn (y := mX10_motionState) (pc := 17) dX10_motionState_17 rfl ?_
    exact K k rfl (by omega)
  · skip
    refine go_aload_n (y := mX10_motionState) (pc := 0) dX10_motionState_0 rfl rfl ?_
    refine go_iload_n (y := mX10_motionState) (pc := 1) dX10_motionState_1 rfl rfl ?_
    refine go_callV1 (y := mX10_motionState) (pc := 2) (y' := mX10_requireMotion) (kc2 := 0) (ks2 := 0) dX10_motionState_2 ml_X10_188 ok_X10_requireMotion (show shp 0 = _ from rfl) ⟨_, _, rfl⟩ (by decide) rfl (by decide) (Nat.le_of_ble_eq_true rfl) rfl (g_requireMotion (by omega) (fun h9 => absurd h9 g) (fun _ => K2 g))
set_option maxRecDepth 8000 in
set_option maxHeartbeats 4000000 in
theorem g_lather {σ μ : Mem} {m : Int} (hm : rng m) (hS : wfS (su μ)) (hC : wfC (su μ) σ) {Q : Option Value → Mem → Prop} {X : String → Mem → Prop} (K : ∀ k : Nat, m = k → (k : Int) < σ 5 0 → Q (some (.int (iI (σ 8 k)))) (put 20 σ μ)) (K2 : ¬ (0 ≤ m ∧ m < σ 5 0) → X "java/lang/IndexOutOfBoundsException" (put 20 σ μ)) : mt 276 7 1 6 mX10_lather [.ref 0, .int (iI m)] Q X (put 20 σ μ) := by
  show go 276 7 1 6 mX10_lather Q X 0 [.ref 0, .int (iI m)] [] _
  have n1 : 1 ≤ su μ 0 7 := hS.2.2.2.2.2.2.2.2.2.2.2.2.2.2.1
  have n2 : su μ 0 7 ≤ 12 := hS.2.2.2.2.2.2.2.2.2.2.2.2.2.2.2.1
  have c4 : su μ 0 0 ≤ 4 := hS.2.1
  have h5 := hC.1.1
  have h16 := hC.1.2.1
  have h11 := hC.1.2.2.1
  have h12 : σ 11 0 ≤ 12 := by have := hC.1.2.2.2.1; omega
  have hS' := hS
  have hC' := hC
  by_cases g : 0 ≤ m ∧ m < σ 5 0
  · obtain ⟨k, rfl⟩ := Int.eq_ofNat_of_zero_le g.1
    have g2 := g.2
    refine go_aload_n (y := mX10_lather) (pc := 0) dX10_lather_0 rfl rfl ?_
    refine go_iload_n (y := mX10_lather) (pc := 1) dX10_lather_1 rfl rfl ?_
    refine go_callV1 (y := mX10_lather) (pc := 2) (y' := mX10_requireMotion) (kc2 := 0) (ks2 := 0) dX10_lather_2 ml_X10_188 ok_X10_requireMotion (show shp 0 = _ from rfl) ⟨_, _, rfl⟩ (by decide) rfl (by decide) (Nat.le_of_ble_eq_true rfl) rfl (g_requireMotion (by omega) (fun _ => ?_) (fun h9 => absurd g h9))
    refine go_aload_n (y := mX10_lather) (pc := 5) dX10_lather_5 rfl rfl ?_
    refine go_getR (y := mX10_lather) (pc := 6) dX10_lather_6 fl_X10_47 rfl rfl (by decide) ?_
    refine go_getR (y := mX10_lather) (pc := 9) dX10_lather_9 fl_X10_191 (ch_sh h20 0 (by decide)) rfl (ch_z (r := 0) h20 (by decide)) ?_
    refine go_getR (y := mX10_lather) (pc := 12) dX10_lather_12 fl_X10_225 (ch_sh h20 5 (by decide)) rfl (ch_z (r := 5) h20 (by decide)) ?_
    refine go_iload_n (y := mX10_lather) (pc := 15) dX10_lather_15 rfl rfl ?_
    refine go_cial (y := mX10_lather) (pc := 16) (r := 8) (k := k) dX10_lather_16 h20 (by decide) rfl (by decide) rfl (by omega) (by decide) (fun r16 => ?_)
    refine go_ireturn (y := mX10_lather) (pc := 17) dX10_lather_17 rfl ?_
    exact K k rfl (by omega)
  · skip
    refine go_aload_n (y := mX10_lather) (pc := 0) dX10_lather_0 rfl rfl ?_
    refine go_iload_n (y := mX10_lather) (pc := 1) dX10_lather_1 rfl rfl ?_
    refine go_callV1 (y := mX10_lather) (pc := 2) (y' := mX10_requireMotion) (kc2 := 0) (ks2 := 0) dX10_lather_2 ml_X10_188 ok_X10_requireMotion (show shp 0 = _ from rfl) ⟨_, _, rfl⟩ (by decide) rfl (by decide) (Nat.le_of_ble_eq_true rfl) rfl (g_requireMotion (by omega) (fun h9 => absurd h9 g) (fun _ => K2 g))
set_option maxRecDepth 8000 in
set_option maxHeartbeats 4000000 in
theorem g_weightFor {σ μ : Mem} {m : Int} (hm : rng m) (hS : wfS (su μ)) (hC : wfC (su μ) σ) {Q : Option Value → Mem → Prop} {X : String → Mem → Prop} (K : ∀ k : Nat, m = k → (k : Int) < σ 5 0 → Q (some (.int (iI (wvt (su μ) σ k 1)))) (put 20 σ μ)) (K2 : ¬ (0 ≤ m ∧ m < σ 5 0) → X "java/lang/IndexOutOfBoundsException" (put 20 σ μ)) : mt 276 7 1 6 mX10_weightFor [.ref 0, .int (iI m)] Q X (put 20 σ μ) := by
  show go 276 7 1 6 mX10_weightFor Q X 0 [.ref 0, .int (iI m)] [] _
  have n1 : 1 ≤ su μ 0 7 := hS.2.2.2.2.2.2.2.2.2.2.2.2.2.2.1
  have n2 : su μ 0 7 ≤ 12 := hS.2.2.2.2.2.2.2.2.2.2.2.2.2.2.2.1
  have c4 : su μ 0 0 ≤ 4 := hS.2.1
  have h5 := hC.1.1
  have h16 := hC.1.2.1
  have h11 := hC.1.2.2.1
  have h12 : σ 11 0 ≤ 12 := by have := hC.1.2.2.2.1; omega
  have hS' := hS
  have hC' := hC
  by_cases g : 0 ≤ m ∧ m < σ 5 0
  · obtain ⟨k, rfl⟩ := Int.eq_ofNat_of_zero_le g.1
    have g2 := g.2
    refine go_aload_n (y := mX10_weightFor) (pc := 0) dX10_weightFor_0 rfl rfl ?_
    refine go_iload_n (y := mX10_weightFor) (pc := 1) dX10_weightFor_1 rfl rfl ?_
    refine go_callV1 (y := mX10_weightFor) (pc := 2) (y' := mX10_requireMotion) (kc2 := 0) (ks2 := 0) dX10_weightFor_2 ml_X10_188 ok_X10_requireMotion (show shp 0 = _ from rfl) ⟨_, _, rfl⟩ (by decide) rfl (by decide) (Nat.le_of_ble_eq_true rfl) rfl (g_requireMotion (by omega) (fun _ => ?_) (fun h9 => absurd g h9))
    refine go_aload_n (y := mX10_weightFor) (pc := 5) dX10_weightFor_5 rfl rfl ?_
    refine go_getR (y := mX10_weightFor) (pc := 6) dX10_weightFor_6 fl_X10_47 rfl rfl (by decide) ?_
    refine go_iload_n (y := mX10_weightFor) (pc := 9) dX10_weightFor_9 rfl rfl ?_
    refine go_iconst (y := mX10_weightFor) (pc := 10) dX10_weightFor_10 ?_
    refine go_callV2 (y := mX10_weightFor) (pc := 11) (y' := mX1_weightOfVotes) (kc2 := 0) (ks2 := 0) dX10_weightFor_11 ml_X10_228 ok_X1_weightOfVotes (ch_sh h20 0 (by decide)) ⟨_, _, rfl⟩ (ch_z (r := 0) h20 (by decide)) ⟨rfl, rfl⟩ (by decide) (Nat.le_of_ble_eq_true rfl) rfl (c_weightOfVotes h20 (q := k) (by omega) (by omega) hS (fun v11 e11 b11 => ?_))
    refine go_ireturn (y := mX10_weightFor) (pc := 14) dX10_weightFor_14 rfl ?_
    rw [e11]
    exact K k rfl (by omega)
  · skip
    refine go_aload_n (y := mX10_weightFor) (pc := 0) dX10_weightFor_0 rfl rfl ?_
    refine go_iload_n (y := mX10_weightFor) (pc := 1) dX10_weightFor_1 rfl rfl ?_
    refine go_callV1 (y := mX10_weightFor) (pc := 2) (y' := mX10_requireMotion) (kc2 := 0) (ks2 := 0) dX10_weightFor_2 ml_X10_188 ok_X10_requireMotion (show shp 0 = _ from rfl) ⟨_, _, rfl⟩ (by decide) rfl (by decide) (Nat.le_of_ble_eq_true rfl) rfl (g_requireMotion (by omega) (fun h9 => absurd h9 g) (fun _ => K2 g))
set_option maxRecDepth 8000 in
set_option maxHeartbeats 4000000 in
theorem g_weightAgainst {σ μ : Mem} {m : Int} (hm : rng m) (hS : wfS (su μ)) (hC : wfC (su μ) σ) {Q : Option Value → Mem → Prop} {X : String → Mem → Prop} (K : ∀ k : Nat, m = k → (k : Int) < σ 5 0 → Q (some (.int (iI (wvt (su μ) σ k (-1))))) (put 20 σ μ)) (K2 : ¬ (0 ≤ m ∧ m < σ 5 0) → X "java/lang/IndexOutOfBoundsException" (put 20 σ μ)) : mt 276 7 1 6 mX10_weightAgainst [.ref 0, .int (iI m)] Q X (put 20 σ μ) := by
  show go 276 7 1 6 mX10_weightAgainst Q X 0 [.ref 0, .int (iI m)] [] _
  have n1 : 1 ≤ su μ 0 7 := hS.2.2.2.2.2.2.2.2.2.2.2.2.2.2.1
  have n2 : su μ 0 7 ≤ 12 := hS.2.2.2.2.2.2.2.2.2.2.2.2.2.2.2.1
  have c4 : su μ 0 0 ≤ 4 := hS.2.1
  have h5 := hC.1.1
  have h16 := hC.1.2.1
  have h11 := hC.1.2.2.1
  have h12 : σ 11 0 ≤ 12 := by have := hC.1.2.2.2.1; omega
  have hS' := hS
  have hC' := hC
  by_cases g : 0 ≤ m ∧ m < σ 5 0
  · obtain ⟨k, rfl⟩ := Int.eq_ofNat_of_zero_le g.1
    have g2 := g.2
    refine go_aload_n (y := mX10_weightAgainst) (pc := 0) dX10_weightAgainst_0 rfl rfl ?_
    refine go_iload_n (y := mX10_weightAgainst) (pc := 1) dX10_weightAgainst_1 rfl rfl ?_
    refine go_callV1 (y := mX10_weightAgainst) (pc := 2) (y' := mX10_requireMotion) (kc2 := 0) (ks2 := 0) dX10_weightAgainst_2 ml_X10_188 ok_X10_requireMotion (show shp 0 = _ from rfl) ⟨_, _, rfl⟩ (by decide) rfl (by decide) (Nat.le_of_ble_eq_true rfl) rfl (g_requireMotion (by omega) (fun _ => ?_) (fun h9 => absurd g h9))
    refine go_aload_n (y := mX10_weightAgainst) (pc := 5) dX10_weightAgainst_5 rfl rfl ?_
    refine go_getR (y := mX10_weightAgainst) (pc := 6) dX10_weightAgainst_6 fl_X10_47 rfl rfl (by decide) ?_
    refine go_iload_n (y := mX10_weightAgainst) (pc := 9) dX10_weightAgainst_9 rfl rfl ?_
    refine go_iconst (y := mX10_weightAgainst) (pc := 10) dX10_weightAgainst_10 ?_
    refine go_callV2 (y := mX10_weightAgainst) (pc := 11) (y' := mX1_weightOfVotes) (kc2 := 0) (ks2 := 0) dX10_weightAgainst_11 ml_X10_228 ok_X1_weightOfVotes (ch_sh h20 0 (by decide)) ⟨_, _, rfl⟩ (ch_z (r := 0) h20 (by decide)) ⟨rfl, rfl⟩ (by decide) (Nat.le_of_ble_eq_true rfl) rfl (c_weightOfVotes h20 (q := k) (by omega) (by omega) hS (fun v11 e11 b11 => ?_))
    refine go_ireturn (y := mX10_weightAgainst) (pc := 14) dX10_weightAgainst_14 rfl ?_
    rw [e11]
    exact K k rfl (by omega)
  · skip
    refine go_aload_n (y := mX10_weightAgainst) (pc := 0) dX10_weightAgainst_0 rfl rfl ?_
    refine go_iload_n (y := mX10_weightAgainst) (pc := 1) dX10_weightAgainst_1 rfl rfl ?_
    refine go_callV1 (y := mX10_weightAgainst) (pc := 2) (y' := mX10_requireMotion) (kc2 := 0) (ks2 := 0) dX10_weightAgainst_2 ml_X10_188 ok_X10_requireMotion (show shp 0 = _ from rfl) ⟨_, _, rfl⟩ (by decide) rfl (by decide) (Nat.le_of_ble_eq_true rfl) rfl (g_requireMotion (by omega) (fun h9 => absurd h9 g) (fun _ => K2 g))
set_option maxRecDepth 8000 in
set_option maxHeartbeats 4000000 in
theorem g_voterCount {σ μ : Mem} {m : Int} (hm : rng m) (hS : wfS (su μ)) (hC : wfC (su μ) σ) {Q : Option Value → Mem → Prop} {X : String → Mem → Prop} (K : ∀ k : Nat, m = k → (k : Int) < σ 5 0 → Q (some (.int (iI (nvt (su μ) σ k)))) (put 20 σ μ)) (K2 : ¬ (0 ≤ m ∧ m < σ 5 0) → X "java/lang/IndexOutOfBoundsException" (put 20 σ μ)) : mt 276 7 1 6 mX10_voterCount [.ref 0, .int (iI m)] Q X (put 20 σ μ) := by
  show go 276 7 1 6 mX10_voterCount Q X 0 [.ref 0, .int (iI m)] [] _
  have n1 : 1 ≤ su μ 0 7 := hS.2.2.2.2.2.2.2.2.2.2.2.2.2.2.1
  have n2 : su μ 0 7 ≤ 12 := hS.2.2.2.2.2.2.2.2.2.2.2.2.2.2.2.1
  have c4 : su μ 0 0 ≤ 4 := hS.2.1
  have h5 := hC.1.1
  have h16 := hC.1.2.1
  have h11 := hC.1.2.2.1
  have h12 : σ 11 0 ≤ 12 := by have := hC.1.2.2.2.1; omega
  have hS' := hS
  have hC' := hC
  by_cases g : 0 ≤ m ∧ m < σ 5 0
  · obtain ⟨k, rfl⟩ := Int.eq_ofNat_of_zero_le g.1
    have g2 := g.2
    refine go_aload_n (y := mX10_voterCount) (pc := 0) dX10_voterCount_0 rfl rfl ?_
    refine go_iload_n (y := mX10_voterCount) (pc := 1) dX10_voterCount_1 rfl rfl ?_
    refine go_callV1 (y := mX10_voterCount) (pc := 2) (y' := mX10_requireMotion) (kc2 := 0) (ks2 := 0) dX10_voterCount_2 ml_X10_188 ok_X10_requireMotion (show shp 0 = _ from rfl) ⟨_, _, rfl⟩ (by decide) rfl (by decide) (Nat.le_of_ble_eq_true rfl) rfl (g_requireMotion (by omega) (fun _ => ?_) (fun h9 => absurd g h9))
    refine go_aload_n (y := mX10_voterCount) (pc := 5) dX10_voterCount_5 rfl rfl ?_
    refine go_getR (y := mX10_voterCount) (pc := 6) dX10_voterCount_6 fl_X10_47 rfl rfl (by decide) ?_
    refine go_iload_n (y := mX10_voterCount) (pc := 9) dX10_voterCount_9 rfl rfl ?_
    refine go_callV1 (y := mX10_voterCount) (pc := 10) (y' := mX1_countVoters) (kc2 := 0) (ks2 := 0) dX10_voterCount_10 ml_X10_231 ok_X1_countVoters (ch_sh h20 0 (by decide)) ⟨_, _, rfl⟩ (ch_z (r := 0) h20 (by decide)) rfl (by decide) (Nat.le_of_ble_eq_true rfl) rfl (c_countVoters h20 (q := k) (by omega) (by omega) (by omega) (fun v10 e10 b10 => ?_))
    refine go_ireturn (y := mX10_voterCount) (pc := 13) dX10_voterCount_13 rfl ?_
    rw [e10]
    exact K k rfl (by omega)
  · skip
    refine go_aload_n (y := mX10_voterCount) (pc := 0) dX10_voterCount_0 rfl rfl ?_
    refine go_iload_n (y := mX10_voterCount) (pc := 1) dX10_voterCount_1 rfl rfl ?_
    refine go_callV1 (y := mX10_voterCount) (pc := 2) (y' := mX10_requireMotion) (kc2 := 0) (ks2 := 0) dX10_voterCount_2 ml_X10_188 ok_X10_requireMotion (show shp 0 = _ from rfl) ⟨_, _, rfl⟩ (by decide) rfl (by decide) (Nat.le_of_ble_eq_true rfl) rfl (g_requireMotion (by omega) (fun h9 => absurd h9 g) (fun _ => K2 g))
set_option maxRecDepth 8000 in
set_option maxHeartbeats 4000000 in
theorem g_obstacle {σ μ : Mem} {m : Int} (hm : rng m) (hS : wfS (su μ)) (hC : wfC (su μ) σ) {Q : Option Value → Mem → Prop} {X : String → Mem → Prop} (K : ∀ k : Nat, m = k → (k : Int) < σ 5 0 → Q (some (.int (iI (obo (su μ) σ k)))) (put 20 σ μ)) (K2 : ¬ (0 ≤ m ∧ m < σ 5 0) → X "java/lang/IndexOutOfBoundsException" (put 20 σ μ)) : mt 276 7 1 6 mX10_obstacle [.ref 0, .int (iI m)] Q X (put 20 σ μ) := by
  show go 276 7 1 6 mX10_obstacle Q X 0 [.ref 0, .int (iI m)] [] _
  have n1 : 1 ≤ su μ 0 7 := hS.2.2.2.2.2.2.2.2.2.2.2.2.2.2.1
  have n2 : su μ 0 7 ≤ 12 := hS.2.2.2.2.2.2.2.2.2.2.2.2.2.2.2.1
  have c4 : su μ 0 0 ≤ 4 := hS.2.1
  have h5 := hC.1.1
  have h16 := hC.1.2.1
  have h11 := hC.1.2.2.1
  have h12 : σ 11 0 ≤ 12 := by have := hC.1.2.2.2.1; omega
  have hS' := hS
  have hC' := hC
  by_cases g : 0 ≤ m ∧ m < σ 5 0
  · obtain ⟨k, rfl⟩ := Int.eq_ofNat_of_zero_le g.1
    have g2 := g.2
    refine go_aload_n (y := mX10_obstacle) (pc := 0) dX10_obstacle_0 rfl rfl ?_
    refine go_iload_n (y := mX10_obstacle) (pc := 1) dX10_obstacle_1 rfl rfl ?_
    refine go_callV1 (y := mX10_obstacle) (pc := 2) (y' := mX10_requireMotion) (kc2 := 0) (ks2 := 0) dX10_obstacle_2 ml_X10_188 ok_X10_requireMotion (show shp 0 = _ from rfl) ⟨_, _, rfl⟩ (by decide) rfl (by decide) (Nat.le_of_ble_eq_true rfl) rfl (g_requireMotion (by omega) (fun _ => ?_) (fun h9 => absurd g h9))
    refine go_aload_n (y := mX10_obstacle) (pc := 5) dX10_obstacle_5 rfl rfl ?_
    refine go_getR (y := mX10_obstacle) (pc := 6) dX10_obstacle_6 fl_X10_47 rfl rfl (by decide) ?_
    refine go_iload_n (y := mX10_obstacle) (pc := 9) dX10_obstacle_9 rfl rfl ?_
    refine go_callV1 (y := mX10_obstacle) (pc := 10) (y' := mX1_obstacleTo) (kc2 := 0) (ks2 := 0) dX10_obstacle_10 ml_X10_234 ok_X1_obstacleTo (ch_sh h20 0 (by decide)) ⟨_, _, rfl⟩ (ch_z (r := 0) h20 (by decide)) rfl (by decide) (Nat.le_of_ble_eq_true rfl) rfl (c_obstacleTo h20 (by omega) hS h16 (fun v10 e10 b10 => ?_))
    refine go_ireturn (y := mX10_obstacle) (pc := 13) dX10_obstacle_13 rfl ?_
    rw [e10]
    exact K k rfl (by omega)
  · skip
    refine go_aload_n (y := mX10_obstacle) (pc := 0) dX10_obstacle_0 rfl rfl ?_
    refine go_iload_n (y := mX10_obstacle) (pc := 1) dX10_obstacle_1 rfl rfl ?_
    refine go_callV1 (y := mX10_obstacle) (pc := 2) (y' := mX10_requireMotion) (kc2 := 0) (ks2 := 0) dX10_obstacle_2 ml_X10_188 ok_X10_requireMotion (show shp 0 = _ from rfl) ⟨_, _, rfl⟩ (by decide) rfl (by decide) (Nat.le_of_ble_eq_true rfl) rfl (g_requireMotion (by omega) (fun h9 => absurd h9 g) (fun _ => K2 g))
set_option maxRecDepth 8000 in
set_option maxHeartbeats 4000000 in
theorem g_decisiveVoter {σ μ : Mem} {m : Int} (hm : rng m) (hS : wfS (su μ)) (hC : wfC (su μ) σ) {Q : Option Value → Mem → Prop} {X : String → Mem → Prop} (K : ∀ k : Nat, m = k → (k : Int) < σ 5 0 → Q (some (.int (iI ((ltk (su μ) σ k (su μ 0 7).toNat).1)))) (put 20 σ μ)) (K2 : ¬ (0 ≤ m ∧ m < σ 5 0) → X "java/lang/IndexOutOfBoundsException" (put 20 σ μ)) : mt 276 7 1 6 mX10_decisiveVoter [.ref 0, .int (iI m)] Q X (put 20 σ μ) := by
  show go 276 7 1 6 mX10_decisiveVoter Q X 0 [.ref 0, .int (iI m)] [] _
  have n1 : 1 ≤ su μ 0 7 := hS.2.2.2.2.2.2.2.2.2.2.2.2.2.2.1
  have n2 : su μ 0 7 ≤ 12 := hS.2.2.2.2.2.2.2.2.2.2.2.2.2.2.2.1
  have c4 : su μ 0 0 ≤ 4 := hS.2.1
  have h5 := hC.1.1
  have h16 := hC.1.2.1
  have h11 := hC.1.2.2.1
  have h12 : σ 11 0 ≤ 12 := by have := hC.1.2.2.2.1; omega
  have hS' := hS
  have hC' := hC
  by_cases g : 0 ≤ m ∧ m < σ 5 0
  · obtain ⟨k, rfl⟩ := Int.eq_ofNat_of_zero_le g.1
    have g2 := g.2
    refine go_aload_n (y := mX10_decisiveVoter) (pc := 0) dX10_decisiveVoter_0 rfl rfl ?_
    refine go_iload_n (y := mX10_decisiveVoter) (pc := 1) dX10_decisiveVoter_1 rfl rfl ?_
    refine go_callV1 (y := mX10_decisiveVoter) (pc := 2) (y' := mX10_requireMotion) (kc2 := 0) (ks2 := 0) dX10_decisiveVoter_2 ml_X10_188 ok_X10_requireMotion (show shp 0 = _ from rfl) ⟨_, _, rfl⟩ (by decide) rfl (by decide) (Nat.le_of_ble_eq_true rfl) rfl (g_requireMotion (by omega) (fun _ => ?_) (fun h9 => absurd g h9))
    refine go_aload_n (y := mX10_decisiveVoter) (pc := 5) dX10_decisiveVoter_5 rfl rfl ?_
    refine go_getR (y := mX10_decisiveVoter) (pc := 6) dX10_decisiveVoter_6 fl_X10_47 rfl rfl (by decide) ?_
    refine go_iload_n (y := mX10_decisiveVoter) (pc := 9) dX10_decisiveVoter_9 rfl rfl ?_
    refine go_callV1 (y := mX10_decisiveVoter) (pc := 10) (y' := mX1_lightestTurner) (kc2 := 0) (ks2 := 0) dX10_decisiveVoter_10 ml_X10_240 ok_X1_lightestTurner (ch_sh h20 0 (by decide)) ⟨_, _, rfl⟩ (ch_z (r := 0) h20 (by decide)) rfl (by decide) (Nat.le_of_ble_eq_true rfl) rfl (c_lightestTurner h20 (q := k) (by omega) hS (fun v10 e10 b10 => ?_))
    refine go_ireturn (y := mX10_decisiveVoter) (pc := 13) dX10_decisiveVoter_13 rfl ?_
    rw [e10]
    exact K k rfl (by omega)
  · skip
    refine go_aload_n (y := mX10_decisiveVoter) (pc := 0) dX10_decisiveVoter_0 rfl rfl ?_
    refine go_iload_n (y := mX10_decisiveVoter) (pc := 1) dX10_decisiveVoter_1 rfl rfl ?_
    refine go_callV1 (y := mX10_decisiveVoter) (pc := 2) (y' := mX10_requireMotion) (kc2 := 0) (ks2 := 0) dX10_decisiveVoter_2 ml_X10_188 ok_X10_requireMotion (show shp 0 = _ from rfl) ⟨_, _, rfl⟩ (by decide) rfl (by decide) (Nat.le_of_ble_eq_true rfl) rfl (g_requireMotion (by omega) (fun h9 => absurd h9 g) (fun _ => K2 g))
set_option maxRecDepth 8000 in
set_option maxHeartbeats 4000000 in
theorem g_speaker {σ μ : Mem} {m : Int} (hm : rng m) (hS : wfS (su μ)) (hC : wfC (su μ) σ) {Q : Option Value → Mem → Prop} {X : String → Mem → Prop} (K : ∀ k : Nat, m = k → (k : Int) < su μ 0 0 → Q (some (.int (iI (σ 16 k)))) (put 20 σ μ)) (K2 : ¬ (0 ≤ m ∧ m < su μ 0 0) → X "java/lang/IndexOutOfBoundsException" (put 20 σ μ)) : mt 276 7 1 6 mX10_speaker [.ref 0, .int (iI m)] Q X (put 20 σ μ) := by
  show go 276 7 1 6 mX10_speaker Q X 0 [.ref 0, .int (iI m)] [] _
  have n1 : 1 ≤ su μ 0 7 := hS.2.2.2.2.2.2.2.2.2.2.2.2.2.2.1
  have n2 : su μ 0 7 ≤ 12 := hS.2.2.2.2.2.2.2.2.2.2.2.2.2.2.2.1
  have c4 : su μ 0 0 ≤ 4 := hS.2.1
  have h5 := hC.1.1
  have h16 := hC.1.2.1
  have h11 := hC.1.2.2.1
  have h12 : σ 11 0 ≤ 12 := by have := hC.1.2.2.2.1; omega
  have hS' := hS
  have hC' := hC
  by_cases g : 0 ≤ m ∧ m < su μ 0 0
  · obtain ⟨k, rfl⟩ := Int.eq_ofNat_of_zero_le g.1
    have g2 := g.2
    refine go_aload_n (y := mX10_speaker) (pc := 0) dX10_speaker_0 rfl rfl ?_
    refine go_iload_n (y := mX10_speaker) (pc := 1) dX10_speaker_1 rfl rfl ?_
    refine go_callV1 (y := mX10_speaker) (pc := 2) (y' := mX10_requireChair) (kc2 := 0) (ks2 := 0) dX10_speaker_2 ml_X10_256 ok_X10_requireChair (show shp 0 = _ from rfl) ⟨_, _, rfl⟩ (by decide) rfl (by decide) (Nat.le_of_ble_eq_true rfl) rfl (g_requireChair (by omega) (fun _ => ?_) (fun h9 => absurd g h9))
    refine go_aload_n (y := mX10_speaker) (pc := 5) dX10_speaker_5 rfl rfl ?_
    refine go_getR (y := mX10_speaker) (pc := 6) dX10_speaker_6 fl_X10_47 rfl rfl (by decide) ?_
    refine go_getR (y := mX10_speaker) (pc := 9) dX10_speaker_9 fl_X10_200 (ch_sh h20 0 (by decide)) rfl (ch_z (r := 0) h20 (by decide)) ?_
    refine go_getR (y := mX10_speaker) (pc := 12) dX10_speaker_12 fl_X10_259 (ch_sh h20 15 (by decide)) rfl (ch_z (r := 15) h20 (by decide)) ?_
    refine go_iload_n (y := mX10_speaker) (pc := 15) dX10_speaker_15 rfl rfl ?_
    refine go_cial (y := mX10_speaker) (pc := 16) (r := 16) (k := k) dX10_speaker_16 h20 (by decide) rfl (by decide) rfl (by omega) (by decide) (fun r16 => ?_)
    refine go_ireturn (y := mX10_speaker) (pc := 17) dX10_speaker_17 rfl ?_
    exact K k rfl (by omega)
  · skip
    refine go_aload_n (y := mX10_speaker) (pc := 0) dX10_speaker_0 rfl rfl ?_
    refine go_iload_n (y := mX10_speaker) (pc := 1) dX10_speaker_1 rfl rfl ?_
    refine go_callV1 (y := mX10_speaker) (pc := 2) (y' := mX10_requireChair) (kc2 := 0) (ks2 := 0) dX10_speaker_2 ml_X10_256 ok_X10_requireChair (show shp 0 = _ from rfl) ⟨_, _, rfl⟩ (by decide) rfl (by decide) (Nat.le_of_ble_eq_true rfl) rfl (g_requireChair (by omega) (fun h9 => absurd h9 g) (fun _ => K2 g))
set_option maxRecDepth 8000 in
set_option maxHeartbeats 4000000 in
theorem g_remainingTime {σ μ : Mem} {m : Int} (hm : rng m) (hS : wfS (su μ)) (hC : wfC (su μ) σ) {Q : Option Value → Mem → Prop} {X : String → Mem → Prop} (K : ∀ k : Nat, m = k → (k : Int) < su μ 0 0 → Q (some (.int (iI (σ 19 k)))) (put 20 σ μ)) (K2 : ¬ (0 ≤ m ∧ m < su μ 0 0) → X "java/lang/IndexOutOfBoundsException" (put 20 σ μ)) : mt 276 7 1 6 mX10_remainingTime [.ref 0, .int (iI m)] Q X (put 20 σ μ) := by
  show go 276 7 1 6 mX10_remainingTime Q X 0 [.ref 0, .int (iI m)] [] _
  have n1 : 1 ≤ su μ 0 7 := hS.2.2.2.2.2.2.2.2.2.2.2.2.2.2.1
  have n2 : su μ 0 7 ≤ 12 := hS.2.2.2.2.2.2.2.2.2.2.2.2.2.2.2.1
  have c4 : su μ 0 0 ≤ 4 := hS.2.1
  have h5 := hC.1.1
  have h16 := hC.1.2.1
  have h11 := hC.1.2.2.1
  have h12 : σ 11 0 ≤ 12 := by have := hC.1.2.2.2.1; omega
  have hS' := hS
  have hC' := hC
  by_cases g : 0 ≤ m ∧ m < su μ 0 0
  · obtain ⟨k, rfl⟩ := Int.eq_ofNat_of_zero_le g.1
    have g2 := g.2
    refine go_aload_n (y := mX10_remainingTime) (pc := 0) dX10_remainingTime_0 rfl rfl ?_
    refine go_iload_n (y := mX10_remainingTime) (pc := 1) dX10_remainingTime_1 rfl rfl ?_
    refine go_callV1 (y := mX10_remainingTime) (pc := 2) (y' := mX10_requireChair) (kc2 := 0) (ks2 := 0) dX10_remainingTime_2 ml_X10_256 ok_X10_requireChair (show shp 0 = _ from rfl) ⟨_, _, rfl⟩ (by decide) rfl (by decide) (Nat.le_of_ble_eq_true rfl) rfl (g_requireChair (by omega) (fun _ => ?_) (fun h9 => absurd g h9))
    refine go_aload_n (y := mX10_remainingTime) (pc := 5) dX10_remainingTime_5 rfl rfl ?_
    refine go_getR (y := mX10_remainingTime) (pc := 6) dX10_remainingTime_6 fl_X10_47 rfl rfl (by decide) ?_
    refine go_getR (y := mX10_remainingTime) (pc := 9) dX10_remainingTime_9 fl_X10_200 (ch_sh h20 0 (by decide)) rfl (ch_z (r := 0) h20 (by decide)) ?_
    refine go_getR (y := mX10_remainingTime) (pc := 12) dX10_remainingTime_12 fl_X10_274 (ch_sh h20 15 (by decide)) rfl (ch_z (r := 15) h20 (by decide)) ?_
    refine go_iload_n (y := mX10_remainingTime) (pc := 15) dX10_remainingTime_15 rfl rfl ?_
    refine go_cial (y := mX10_remainingTime) (pc := 16) (r := 19) (k := k) dX10_remainingTime_16 h20 (by decide) rfl (by decide) rfl (by omega) (by decide) (fun r16 => ?_)
    refine go_ireturn (y := mX10_remainingTime) (pc := 17) dX10_remainingTime_17 rfl ?_
    exact K k rfl (by omega)
  · skip
    refine go_aload_n (y := mX10_remainingTime) (pc := 0) dX10_remainingTime_0 rfl rfl ?_
    refine go_iload_n (y := mX10_remainingTime) (pc := 1) dX10_remainingTime_1 rfl rfl ?_
    refine go_callV1 (y := mX10_remainingTime) (pc := 2) (y' := mX10_requireChair) (kc2 := 0) (ks2 := 0) dX10_remainingTime_2 ml_X10_256 ok_X10_requireChair (show shp 0 = _ from rfl) ⟨_, _, rfl⟩ (by decide) rfl (by decide) (Nat.le_of_ble_eq_true rfl) rfl (g_requireChair (by omega) (fun h9 => absurd h9 g) (fun _ => K2 g))
set_option maxRecDepth 8000 in
set_option maxHeartbeats 4000000 in
theorem g_isRebutted {σ μ : Mem} {m : Int} (hm : rng m) (hS : wfS (su μ)) (hC : wfC (su μ) σ) {Q : Option Value → Mem → Prop} {X : String → Mem → Prop} (K : ∀ k : Nat, m = k → (k : Int) < su μ 0 0 → Q (some (.int (iI (bI (0 < σ 20 k))))) (put 20 σ μ)) (K2 : ¬ (0 ≤ m ∧ m < su μ 0 0) → X "java/lang/IndexOutOfBoundsException" (put 20 σ μ)) : mt 276 7 1 6 mX10_isRebutted [.ref 0, .int (iI m)] Q X (put 20 σ μ) := by
  show go 276 7 1 6 mX10_isRebutted Q X 0 [.ref 0, .int (iI m)] [] _
  have n1 : 1 ≤ su μ 0 7 := hS.2.2.2.2.2.2.2.2.2.2.2.2.2.2.1
  have n2 : su μ 0 7 ≤ 12 := hS.2.2.2.2.2.2.2.2.2.2.2.2.2.2.2.1
  have c4 : su μ 0 0 ≤ 4 := hS.2.1
  have h5 := hC.1.1
  have h16 := hC.1.2.1
  have h11 := hC.1.2.2.1
  have h12 : σ 11 0 ≤ 12 := by have := hC.1.2.2.2.1; omega
  have hS' := hS
  have hC' := hC
  by_cases g : 0 ≤ m ∧ m < su μ 0 0
  · obtain ⟨k, rfl⟩ := Int.eq_ofNat_of_zero_le g.1
    have g2 := g.2
    refine go_aload_n (y := mX10_isRebutted) (pc := 0) dX10_isRebutted_0 rfl rfl ?_
    refine go_iload_n (y := mX10_isRebutted) (pc := 1) dX10_isRebutted_1 rfl rfl ?_
    refine go_callV1 (y := mX10_isRebutted) (pc := 2) (y' := mX10_requireChair) (kc2 := 0) (ks2 := 0) dX10_isRebutted_2 ml_X10_256 ok_X10_requireChair (show shp 0 = _ from rfl) ⟨_, _, rfl⟩ (by decide) rfl (by decide) (Nat.le_of_ble_eq_true rfl) rfl (g_requireChair (by omega) (fun _ => ?_) (fun h9 => absurd g h9))
    refine go_aload_n (y := mX10_isRebutted) (pc := 5) dX10_isRebutted_5 rfl rfl ?_
    refine go_getR (y := mX10_isRebutted) (pc := 6) dX10_isRebutted_6 fl_X10_47 rfl rfl (by decide) ?_
    refine go_getR (y := mX10_isRebutted) (pc := 9) dX10_isRebutted_9 fl_X10_200 (ch_sh h20 0 (by decide)) rfl (ch_z (r := 0) h20 (by decide)) ?_
    refine go_iload_n (y := mX10_isRebutted) (pc := 12) dX10_isRebutted_12 rfl rfl ?_
    refine go_callV1 (y := mX10_isRebutted) (pc := 13) (y' := mX0_isRebuttedAt) (kc2 := 0) (ks2 := 0) dX10_isRebutted_13 ml_X10_277 ok_X0_isRebuttedAt (ch_sh h20 15 (by decide)) ⟨_, _, rfl⟩ (ch_z (r := 15) h20 (by decide)) rfl (by decide) (Nat.le_of_ble_eq_true rfl) rfl (c_isReb h20 (h := k) (by omega) (fun v13 e13 b13 => ?_))
    refine go_zreturn (y := mX10_isRebutted) (pc := 16) dX10_isRebutted_16 rfl (by omega) ?_
    rw [e13]
    exact K k rfl (by omega)
  · skip
    refine go_aload_n (y := mX10_isRebutted) (pc := 0) dX10_isRebutted_0 rfl rfl ?_
    refine go_iload_n (y := mX10_isRebutted) (pc := 1) dX10_isRebutted_1 rfl rfl ?_
    refine go_callV1 (y := mX10_isRebutted) (pc := 2) (y' := mX10_requireChair) (kc2 := 0) (ks2 := 0) dX10_isRebutted_2 ml_X10_256 ok_X10_requireChair (show shp 0 = _ from rfl) ⟨_, _, rfl⟩ (by decide) rfl (by decide) (Nat.le_of_ble_eq_true rfl) rfl (g_requireChair (by omega) (fun h9 => absurd h9 g) (fun _ => K2 g))
set_option maxRecDepth 8000 in
set_option maxHeartbeats 4000000 in
theorem g_wouldPass {σ μ : Mem} {m : Int} (hm : rng m) (hS : wfS (su μ)) (hC : wfC (su μ) σ) {Q : Option Value → Mem → Prop} {X : String → Mem → Prop} (K : ∀ k : Nat, m = k → (k : Int) < σ 5 0 → Q (some (.int (iI (bI (0 < mgn (su μ) σ k))))) (put 20 σ μ)) (K2 : ¬ (0 ≤ m ∧ m < σ 5 0) → X "java/lang/IndexOutOfBoundsException" (put 20 σ μ)) : mt 276 7 1 6 mX10_wouldPass [.ref 0, .int (iI m)] Q X (put 20 σ μ) := by
  show go 276 7 1 6 mX10_wouldPass Q X 0 [.ref 0, .int (iI m)] [] _
  have n1 : 1 ≤ su μ 0 7 := hS.2.2.2.2.2.2.2.2.2.2.2.2.2.2.1
  have n2 : su μ 0 7 ≤ 12 := hS.2.2.2.2.2.2.2.2.2.2.2.2.2.2.2.1
  have c4 : su μ 0 0 ≤ 4 := hS.2.1
  have h5 := hC.1.1
  have h16 := hC.1.2.1
  have h11 := hC.1.2.2.1
  have h12 : σ 11 0 ≤ 12 := by have := hC.1.2.2.2.1; omega
  have hS' := hS
  have hC' := hC
  by_cases g : 0 ≤ m ∧ m < σ 5 0
  · obtain ⟨k, rfl⟩ := Int.eq_ofNat_of_zero_le g.1
    have g2 := g.2
    refine go_aload_n (y := mX10_wouldPass) (pc := 0) dX10_wouldPass_0 rfl rfl ?_
    refine go_iload_n (y := mX10_wouldPass) (pc := 1) dX10_wouldPass_1 rfl rfl ?_
    refine go_callV1 (y := mX10_wouldPass) (pc := 2) (y' := mX10_requireMotion) (kc2 := 0) (ks2 := 0) dX10_wouldPass_2 ml_X10_188 ok_X10_requireMotion (show shp 0 = _ from rfl) ⟨_, _, rfl⟩ (by decide) rfl (by decide) (Nat.le_of_ble_eq_true rfl) rfl (g_requireMotion (by omega) (fun _ => ?_) (fun h9 => absurd g h9))
    refine go_aload_n (y := mX10_wouldPass) (pc := 5) dX10_wouldPass_5 rfl rfl ?_
    refine go_getR (y := mX10_wouldPass) (pc := 6) dX10_wouldPass_6 fl_X10_47 rfl rfl (by decide) ?_
    refine go_iload_n (y := mX10_wouldPass) (pc := 9) dX10_wouldPass_9 rfl rfl ?_
    refine go_callV1 (y := mX10_wouldPass) (pc := 10) (y' := mX1_marginOf) (kc2 := 0) (ks2 := 0) dX10_wouldPass_10 ml_X10_237 ok_X1_marginOf (ch_sh h20 0 (by decide)) ⟨_, _, rfl⟩ (ch_z (r := 0) h20 (by decide)) rfl (by decide) (Nat.le_of_ble_eq_true rfl) rfl (c_marginOf h20 (q := k) (by omega) hS (fun v10 e10 b10 => ?_))
    refine go_if_le (y := mX10_wouldPass) (pc := 13) (tgt := 20) dX10_wouldPass_13 (by decide) (by omega) (fun h13 => ?_) (fun h13 => ?_)
    · skip
      refine go_iconst (y := mX10_wouldPass) (pc := 20) dX10_wouldPass_20 ?_
      refine go_zreturn (y := mX10_wouldPass) (pc := 21) dX10_wouldPass_21 rfl (by omega) ?_
      have h := K k rfl (by omega)
      rw [bI_f (by omega)] at h
      exact h
    · skip
      refine go_iconst (y := mX10_wouldPass) (pc := 16) dX10_wouldPass_16 ?_
      refine go_goto (y := mX10_wouldPass) (pc := 17) (tgt := 21) dX10_wouldPass_17 (by decide) ?_
      refine go_zreturn (y := mX10_wouldPass) (pc := 21) dX10_wouldPass_21 rfl (by omega) ?_
      have h := K k rfl (by omega)
      rw [bI_t (by omega)] at h
      exact h
  · skip
    refine go_aload_n (y := mX10_wouldPass) (pc := 0) dX10_wouldPass_0 rfl rfl ?_
    refine go_iload_n (y := mX10_wouldPass) (pc := 1) dX10_wouldPass_1 rfl rfl ?_
    refine go_callV1 (y := mX10_wouldPass) (pc := 2) (y' := mX10_requireMotion) (kc2 := 0) (ks2 := 0) dX10_wouldPass_2 ml_X10_188 ok_X10_requireMotion (show shp 0 = _ from rfl) ⟨_, _, rfl⟩ (by decide) rfl (by decide) (Nat.le_of_ble_eq_true rfl) rfl (g_requireMotion (by omega) (fun h9 => absurd h9 g) (fun _ => K2 g))
set_option maxRecDepth 8000 in
set_option maxHeartbeats 4000000 in
theorem g_leaning {σ μ : Mem} {m q : Int} (hm : rng m) (hq : rng q) (hS : wfS (su μ)) (hC : wfC (su μ) σ) {Q : Option Value → Mem → Prop} {X : String → Mem → Prop} (K : ∀ k j : Nat, m = k → q = j → (k : Int) < su μ 0 7 → (j : Int) < σ 5 0 → Q (some (.int (iI (ln σ k j)))) (put 20 σ μ)) (K2 : ¬ ((0 ≤ m ∧ m < su μ 0 7) ∧ (0 ≤ q ∧ q < σ 5 0)) → X "java/lang/IndexOutOfBoundsException" (put 20 σ μ)) : mt 276 7 2 12 mX10_leaning [.ref 0, .int (iI m), .int (iI q)] Q X (put 20 σ μ) := by
  show go 276 7 2 12 mX10_leaning Q X 0 [.ref 0, .int (iI m), .int (iI q)] [] _
  have n1 : 1 ≤ su μ 0 7 := hS.2.2.2.2.2.2.2.2.2.2.2.2.2.2.1
  have n2 : su μ 0 7 ≤ 12 := hS.2.2.2.2.2.2.2.2.2.2.2.2.2.2.2.1
  have c4 : su μ 0 0 ≤ 4 := hS.2.1
  have h5 := hC.1.1
  have h16 := hC.1.2.1
  have h11 := hC.1.2.2.1
  have h12 : σ 11 0 ≤ 12 := by have := hC.1.2.2.2.1; omega
  have hS' := hS
  have hC' := hC
  by_cases g : 0 ≤ m ∧ m < su μ 0 7
  · obtain ⟨k, rfl⟩ := Int.eq_ofNat_of_zero_le g.1
    have g2 := g.2
    by_cases g' : 0 ≤ q ∧ q < σ 5 0
    · obtain ⟨j, rfl⟩ := Int.eq_ofNat_of_zero_le g'.1
      have g2' := g'.2
      refine go_aload_n (y := mX10_leaning) (pc := 0) dX10_leaning_0 rfl rfl ?_
      refine go_iload_n (y := mX10_leaning) (pc := 1) dX10_leaning_1 rfl rfl ?_
      refine go_callV1 (y := mX10_leaning) (pc := 2) (y' := mX10_requireMember) (kc2 := 1) (ks2 := 6) dX10_leaning_2 ml_X10_166 ok_X10_requireMember (show shp 0 = _ from rfl) ⟨_, _, rfl⟩ (by decide) rfl (by decide) (Nat.le_of_ble_eq_true rfl) rfl (g_requireMember (by omega) (fun _ => ?_) (fun h9 => absurd g h9))
      refine go_aload_n (y := mX10_leaning) (pc := 5) dX10_leaning_5 rfl rfl ?_
      refine go_iload_n (y := mX10_leaning) (pc := 6) dX10_leaning_6 rfl rfl ?_
      refine go_callV1 (y := mX10_leaning) (pc := 7) (y' := mX10_requireMotion) (kc2 := 0) (ks2 := 0) dX10_leaning_7 ml_X10_188 ok_X10_requireMotion (show shp 0 = _ from rfl) ⟨_, _, rfl⟩ (by decide) rfl (by decide) (Nat.le_of_ble_eq_true rfl) rfl (g_requireMotion (by omega) (fun _ => ?_) (fun h9 => absurd g' h9))
      refine go_aload_n (y := mX10_leaning) (pc := 10) dX10_leaning_10 rfl rfl ?_
      refine go_getR (y := mX10_leaning) (pc := 11) dX10_leaning_11 fl_X10_47 rfl rfl (by decide) ?_
      refine go_getR (y := mX10_leaning) (pc := 14) dX10_leaning_14 fl_X10_191 (ch_sh h20 0 (by decide)) rfl (ch_z (r := 0) h20 (by decide)) ?_
      refine go_iload_n (y := mX10_leaning) (pc := 17) dX10_leaning_17 rfl rfl ?_
      refine go_iload_n (y := mX10_leaning) (pc := 18) dX10_leaning_18 rfl rfl ?_
      refine go_callV2 (y := mX10_leaning) (pc := 19) (y' := mX4_leaningOf) (kc2 := 0) (ks2 := 0) dX10_leaning_19 ml_X10_195 ok_X4_leaningOf (ch_sh h20 5 (by decide)) ⟨_, _, rfl⟩ (ch_z (r := 5) h20 (by decide)) ⟨rfl, rfl⟩ (by decide) (Nat.le_of_ble_eq_true rfl) rfl (c_leaningOf h20 (m := k) (q := j) (by omega) (by omega) (fun r19 => ?_))
      refine go_ireturn (y := mX10_leaning) (pc := 22) dX10_leaning_22 rfl ?_
      exact K k j rfl rfl (by omega) (by omega)
    · skip
      refine go_aload_n (y := mX10_leaning) (pc := 0) dX10_leaning_0 rfl rfl ?_
      refine go_iload_n (y := mX10_leaning) (pc := 1) dX10_leaning_1 rfl rfl ?_
      refine go_callV1 (y := mX10_leaning) (pc := 2) (y' := mX10_requireMember) (kc2 := 1) (ks2 := 6) dX10_leaning_2 ml_X10_166 ok_X10_requireMember (show shp 0 = _ from rfl) ⟨_, _, rfl⟩ (by decide) rfl (by decide) (Nat.le_of_ble_eq_true rfl) rfl (g_requireMember (by omega) (fun _ => ?_) (fun h9 => absurd g h9))
      refine go_aload_n (y := mX10_leaning) (pc := 5) dX10_leaning_5 rfl rfl ?_
      refine go_iload_n (y := mX10_leaning) (pc := 6) dX10_leaning_6 rfl rfl ?_
      refine go_callV1 (y := mX10_leaning) (pc := 7) (y' := mX10_requireMotion) (kc2 := 0) (ks2 := 0) dX10_leaning_7 ml_X10_188 ok_X10_requireMotion (show shp 0 = _ from rfl) ⟨_, _, rfl⟩ (by decide) rfl (by decide) (Nat.le_of_ble_eq_true rfl) rfl (g_requireMotion (by omega) (fun h9 => absurd h9 g') (fun _ => K2 (fun h9 => g' h9.2)))
  · skip
    refine go_aload_n (y := mX10_leaning) (pc := 0) dX10_leaning_0 rfl rfl ?_
    refine go_iload_n (y := mX10_leaning) (pc := 1) dX10_leaning_1 rfl rfl ?_
    refine go_callV1 (y := mX10_leaning) (pc := 2) (y' := mX10_requireMember) (kc2 := 0) (ks2 := 0) dX10_leaning_2 ml_X10_166 ok_X10_requireMember (show shp 0 = _ from rfl) ⟨_, _, rfl⟩ (by decide) rfl (by decide) (Nat.le_of_ble_eq_true rfl) rfl (g_requireMember (by omega) (fun h9 => absurd h9 g) (fun _ => K2 (fun h9 => g h9.1)))
set_option maxRecDepth 8000 in
set_option maxHeartbeats 4000000 in
theorem g_firstBy {σ μ : Mem} {m : Int} (hm : rng m) (hS : wfS (su μ)) (hC : wfC (su μ) σ) {Q : Option Value → Mem → Prop} {X : String → Mem → Prop} (K : 0 ≤ m ∧ m ≤ 3 → Q (some (.int (iI (if fsl (su μ) σ m = -1 then -1 else σ 12 (fsl (su μ) σ m).toNat)))) (put 20 σ μ)) (K2 : ¬ (0 ≤ m ∧ m ≤ 3) → X "java/lang/IndexOutOfBoundsException" (put 20 σ μ)) : mt 276 7 1 6 mX10_firstBy [.ref 0, .int (iI m)] Q X (put 20 σ μ) := by
  show go 276 7 1 6 mX10_firstBy Q X 0 [.ref 0, .int (iI m), .null] [] _
  have n1 : 1 ≤ su μ 0 7 := hS.2.2.2.2.2.2.2.2.2.2.2.2.2.2.1
  have n2 : su μ 0 7 ≤ 12 := hS.2.2.2.2.2.2.2.2.2.2.2.2.2.2.2.1
  have c4 : su μ 0 0 ≤ 4 := hS.2.1
  have h5 := hC.1.1
  have h16 := hC.1.2.1
  have h11 := hC.1.2.2.1
  have h12 : σ 11 0 ≤ 12 := by have := hC.1.2.2.2.1; omega
  have hS' := hS
  have hC' := hC
  have e1 : rfRk m = if m < 0 ∨ 3 < m then 1 else 0 := rfl
  by_cases g : 0 ≤ m ∧ m ≤ 3
  · rw [if_neg (by omega)] at e1
    refine go_iload_n (y := mX10_firstBy) (pc := 0) dX10_firstBy_0 rfl rfl ?_
    refine go_callS1 (y := mX10_firstBy) (pc := 1) (y' := mX1_refusalOfRanking) (kc2 := 1) (ks2 := 6) dX10_firstBy_1 ml_X10_280 ok_X1_refusalOfRanking rfl (by decide) (Nat.le_of_ble_eq_true rfl) rfl (c_refusalOfRanking (by omega) (fun v1 e1 b1 => ?_))
    refine go_callS1 (y := mX10_firstBy) (pc := 4) (y' := mX10_throwIfRefused) (kc2 := 0) (ks2 := 0) dX10_firstBy_4 ml_X10_283 ok_X10_throwIfRefused rfl (by decide) (Nat.le_of_ble_eq_true rfl) rfl (g_throwIfRefused (by omega) (fun _ => ?_) (by omega) (by omega) (by omega))
    refine go_aload_n (y := mX10_firstBy) (pc := 7) dX10_firstBy_7 rfl rfl ?_
    refine go_getR (y := mX10_firstBy) (pc := 8) dX10_firstBy_8 fl_X10_47 rfl rfl (by decide) ?_
    refine go_iload_n (y := mX10_firstBy) (pc := 11) dX10_firstBy_11 rfl rfl ?_
    refine go_callV1 (y := mX10_firstBy) (pc := 12) (y' := mX1_firstPlace) (kc2 := 0) (ks2 := 0) dX10_firstBy_12 ml_X10_286 ok_X1_firstPlace (ch_sh h20 0 (by decide)) ⟨_, _, rfl⟩ (ch_z (r := 0) h20 (by decide)) rfl (by decide) (Nat.le_of_ble_eq_true rfl) rfl (c_firstPlace h20 (by omega) hS hC (fun v12 e12 b12 => ?_))
    refine go_istore_n (y := mX10_firstBy) (pc := 15) dX10_firstBy_15 rfl (by decide) ?_
    refine go_iload_n (y := mX10_firstBy) (pc := 16) dX10_firstBy_16 rfl rfl ?_
    refine go_iconst (y := mX10_firstBy) (pc := 17) dX10_firstBy_17 ?_
    refine go_icmp_ne (y := mX10_firstBy) (pc := 18) (tgt := 25) dX10_firstBy_18 (by decide) (by omega) (by omega) (fun h18 => ?_) (fun h18 => ?_)
    · skip
      have h := K g
      rw [if_neg (by omega)] at h
      refine go_aload_n (y := mX10_firstBy) (pc := 25) dX10_firstBy_25 rfl rfl ?_
      refine go_getR (y := mX10_firstBy) (pc := 26) dX10_firstBy_26 fl_X10_47 rfl rfl (by decide) ?_
      refine go_getR (y := mX10_firstBy) (pc := 29) dX10_firstBy_29 fl_X10_209 (ch_sh h20 0 (by decide)) rfl (ch_z (r := 0) h20 (by decide)) ?_
      refine go_getR (y := mX10_firstBy) (pc := 32) dX10_firstBy_32 fl_X10_289 (ch_sh h20 11 (by decide)) rfl (ch_z (r := 11) h20 (by decide)) ?_
      refine go_iload_n (y := mX10_firstBy) (pc := 35) dX10_firstBy_35 rfl rfl ?_
      refine go_cial (y := mX10_firstBy) (pc := 36) (r := 12) (k := ((fsl (su μ) σ m).toNat)) dX10_firstBy_36 h20 (by decide) rfl (by decide) (by omega) (by omega) (by decide) (fun r36 => ?_)
      refine go_ireturn (y := mX10_firstBy) (pc := 37) dX10_firstBy_37 rfl ?_
      exact h
    · skip
      have h := K g
      rw [if_pos (by omega)] at h
      refine go_iconst (y := mX10_firstBy) (pc := 21) dX10_firstBy_21 ?_
      refine go_goto (y := mX10_firstBy) (pc := 22) (tgt := 37) dX10_firstBy_22 (by decide) ?_
      refine go_ireturn (y := mX10_firstBy) (pc := 37) dX10_firstBy_37 rfl ?_
      exact h
  · rw [if_pos (by omega)] at e1
    refine go_iload_n (y := mX10_firstBy) (pc := 0) dX10_firstBy_0 rfl rfl ?_
    refine go_callS1 (y := mX10_firstBy) (pc := 1) (y' := mX1_refusalOfRanking) (kc2 := 1) (ks2 := 6) dX10_firstBy_1 ml_X10_280 ok_X1_refusalOfRanking rfl (by decide) (Nat.le_of_ble_eq_true rfl) rfl (c_refusalOfRanking (by omega) (fun v1 e1 b1 => ?_))
    refine go_callS1 (y := mX10_firstBy) (pc := 4) (y' := mX10_throwIfRefused) (kc2 := 0) (ks2 := 0) dX10_firstBy_4 ml_X10_283 ok_X10_throwIfRefused rfl (by decide) (Nat.le_of_ble_eq_true rfl) rfl (g_throwIfRefused (by omega) (by omega) (fun _ => K2 g) (by omega) (by omega))
