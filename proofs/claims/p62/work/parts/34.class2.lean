/-! THE CLASS: changes -/
/-- the memory behind 'remember': the n-th kept chamber is τ -/
def hst (μ : Mem) (n : Nat) (τ : Mem) : Mem := wr (wr (put (64 + 21 * n) τ μ) 62 1 (if n < 7 then (n : Int) + 1 else 0)) 62 2 (min (μ 62 2 + 1) 8)
theorem su_hst {μ τ : Mem} {n : Nat} : su (hst μ n τ) = su μ := by
  unfold hst
  rw [su_wr (by decide), su_wr (by decide), su_put (by omega)]
/-- the exception of a refusal -/
def exn (r : Int) : String := if r = 1 then "java/lang/IndexOutOfBoundsException" else if r = 2 then "java/lang/IllegalArgumentException" else "java/lang/IllegalStateException"
theorem g_tir {σ μ : Mem} {m : Int} (hm : 0 ≤ m ∧ m ≤ 3) {Q : Option Value → Mem → Prop} {X : String → Mem → Prop} (K : m = 0 → Q none (put 20 σ μ)) (K2 : m ≠ 0 → X (exn m) (put 20 σ μ)) : mt 276 6 1 6 mX10_throwIfRefused [.int (iI m)] Q X (put 20 σ μ) :=
  g_throwIfRefused hm K (fun h => by have h9 := K2 (by omega); rw [h] at h9; exact h9) (fun h => by have h9 := K2 (by omega); rw [h] at h9; exact h9) (fun h => by have h9 := K2 (by omega); rw [h] at h9; exact h9)
set_option maxRecDepth 8000 in
set_option maxHeartbeats 4000000 in
theorem g_propose {σ μ : Mem} {m x : Int} (hm : rng m) (hx : rng x) {n : Nat} (hn : n < 8) (h1 : μ 62 1 = n) (h2 : 0 ≤ μ 62 2 ∧ μ 62 2 ≤ 8) (hS : wfS (su μ)) (hC : wfC (su μ) σ) {Q : Option Value → Mem → Prop} {X : String → Mem → Prop} (K : rfMo (su μ) σ m x = 0 → ∀ τ, eqC τ σ → Q (some (.int (iI (σ 5 0)))) (put 20 (amo (su μ) σ m x) (hst μ n τ))) (K2 : rfMo (su μ) σ m x ≠ 0 → X (exn (rfMo (su μ) σ m x)) (put 20 σ μ)) : mt 276 7 1 6 mX10_propose [.ref 0, .int (iI m), .int (iI x)] Q X (put 20 σ μ) := by
  show go 276 7 1 6 mX10_propose Q X 0 [.ref 0, .int (iI m), .int (iI x)] [] _
  obtain ⟨n1, n12, c1, c4⟩ := wf_n hS
  obtain ⟨q0, q16, r0, r12⟩ := wf_r hS hC
  have h16 := q16
  have h11 := r0
  have h12 := r12
  have hSt : ∀ τ, wfS (su (hst μ n τ)) := fun τ => by rw [su_hst]; exact hS
  have hCt : ∀ τ, wfC (su (hst μ n τ)) σ := fun τ => by rw [su_hst]; exact hC
  by_cases g : rfMo (su μ) σ m x = 0
  · skip
    have g' := g
    unfold rfMo at g'
    have gm : 0 ≤ m ∧ m < su μ 0 7 := by
      by_cases g9 : 0 ≤ m ∧ m < su μ 0 7
      · exact g9
      · rw [if_neg g9] at g'; omega
    rw [if_pos gm] at g'
    have gx : 0 ≤ x ∧ x ≤ 20 ∧ σ 5 0 < 16 := by
      by_cases g9 : x < 0 ∨ 20 < x
      · rw [if_pos g9] at g'; omega
      · rw [if_neg g9] at g'
        by_cases g8 : 16 ≤ σ 5 0
        · rw [if_pos g8] at g'; omega
        · omega
    refine go_aload_n (y := mX10_propose) (pc := 0) dX10_propose_0 rfl rfl ?_
    refine go_getR (y := mX10_propose) (pc := 1) dX10_propose_1 fl_X10_47 rfl rfl (by decide) ?_
    refine go_iload_n (y := mX10_propose) (pc := 4) dX10_propose_4 rfl rfl ?_
    refine go_iload_n (y := mX10_propose) (pc := 5) dX10_propose_5 rfl rfl ?_
    refine go_callV2 (y := mX10_propose) (pc := 6) (y' := mX1_refusalOfMotion) (kc2 := 1) (ks2 := 6) dX10_propose_6 ml_X10_319 ok_X1_refusalOfMotion (ch_sh h20 0 (by decide)) ⟨_, _, rfl⟩ (ch_z (r := 0) h20 (by decide)) ⟨rfl, rfl⟩ (by decide) (Nat.le_of_ble_eq_true rfl) rfl (c_refusalOfMotion h20 (by omega) (by omega) (fun v6 e6 b6 => ?_))
    refine go_callS1 (y := mX10_propose) (pc := 9) (y' := mX10_throwIfRefused) (kc2 := 0) (ks2 := 0) dX10_propose_9 ml_X10_283 ok_X10_throwIfRefused rfl (by decide) (Nat.le_of_ble_eq_true rfl) rfl (g_tir (by omega) (fun _ => ?_) (fun h9 => absurd (e6.trans g) h9))
    refine go_aload_n (y := mX10_propose) (pc := 12) dX10_propose_12 rfl rfl ?_
    refine go_getR (y := mX10_propose) (pc := 13) dX10_propose_13 fl_X10_57 rfl rfl (by decide) ?_
    refine go_aload_n (y := mX10_propose) (pc := 16) dX10_propose_16 rfl rfl ?_
    refine go_getR (y := mX10_propose) (pc := 17) dX10_propose_17 fl_X10_47 rfl rfl (by decide) ?_
    refine go_callV1 (y := mX10_propose) (pc := 20) (y' := mX2_remember) (kc2 := 0) (ks2 := 0) dX10_propose_20 ml_X10_139 ok_X2_remember (show shp 62 = _ from rfl) ⟨_, _, rfl⟩ (by decide) rfl (by decide) (Nat.le_of_ble_eq_true rfl) rfl (g_remember hn h1 h2 (fun τ hτ => ?_))
    refine go_mem (show _ = put 20 σ (hst μ n τ) from rfl) ?_
    refine go_aload_n (y := mX10_propose) (pc := 23) dX10_propose_23 rfl rfl ?_
    refine go_getR (y := mX10_propose) (pc := 24) dX10_propose_24 fl_X10_47 rfl rfl (by decide) ?_
    refine go_iload_n (y := mX10_propose) (pc := 27) dX10_propose_27 rfl rfl ?_
    refine go_iload_n (y := mX10_propose) (pc := 28) dX10_propose_28 rfl rfl ?_
    refine go_callV2 (y := mX10_propose) (pc := 29) (y' := mX1_addMotion) (kc2 := 0) (ks2 := 0) dX10_propose_29 ml_X10_322 ok_X1_addMotion (ch_sh h20 0 (by decide)) ⟨_, _, rfl⟩ (ch_z (r := 0) h20 (by decide)) ⟨rfl, rfl⟩ (by decide) (Nat.le_of_ble_eq_true rfl) rfl (c_addMotion h20 (by omega) (by omega) (hSt _) (by omega) (by omega) ?_)
    refine go_ireturn (y := mX10_propose) (pc := 32) dX10_propose_32 rfl ?_
    rw [su_hst]
    exact K g τ hτ
  · skip
    refine go_aload_n (y := mX10_propose) (pc := 0) dX10_propose_0 rfl rfl ?_
    refine go_getR (y := mX10_propose) (pc := 1) dX10_propose_1 fl_X10_47 rfl rfl (by decide) ?_
    refine go_iload_n (y := mX10_propose) (pc := 4) dX10_propose_4 rfl rfl ?_
    refine go_iload_n (y := mX10_propose) (pc := 5) dX10_propose_5 rfl rfl ?_
    refine go_callV2 (y := mX10_propose) (pc := 6) (y' := mX1_refusalOfMotion) (kc2 := 1) (ks2 := 6) dX10_propose_6 ml_X10_319 ok_X1_refusalOfMotion (ch_sh h20 0 (by decide)) ⟨_, _, rfl⟩ (ch_z (r := 0) h20 (by decide)) ⟨rfl, rfl⟩ (by decide) (Nat.le_of_ble_eq_true rfl) rfl (c_refusalOfMotion h20 (by omega) (by omega) (fun v6 e6 b6 => ?_))
    refine go_callS1 (y := mX10_propose) (pc := 9) (y' := mX10_throwIfRefused) (kc2 := 0) (ks2 := 0) dX10_propose_9 ml_X10_283 ok_X10_throwIfRefused rfl (by decide) (Nat.le_of_ble_eq_true rfl) rfl (g_tir (by omega) (fun h9 => absurd (e6.symm.trans h9) g) (fun _ => by rw [e6]; exact K2 g))
set_option maxRecDepth 8000 in
set_option maxHeartbeats 4000000 in
theorem g_rebut {σ μ : Mem} {m h : Int} (hm : rng m) (hh : rng h) {n : Nat} (hn : n < 8) (h1 : μ 62 1 = n) (h2 : 0 ≤ μ 62 2 ∧ μ 62 2 ≤ 8) (hS : wfS (su μ)) (hC : wfC (su μ) σ) {Q : Option Value → Mem → Prop} {X : String → Mem → Prop} (K : ∀ k : Nat, h = k → (k : Int) < su μ 0 0 → rfRb (su μ) σ m h = 0 → ∀ τ, eqC τ σ → Q (some (.int (iI (frm (su μ) (reb σ k))))) (put 20 (reb σ k) (hst μ n τ))) (K2 : rfRb (su μ) σ m h ≠ 0 → X (exn (rfRb (su μ) σ m h)) (put 20 σ μ)) : mt 276 7 1 6 mX10_rebut [.ref 0, .int (iI m), .int (iI h)] Q X (put 20 σ μ) := by
  show go 276 7 1 6 mX10_rebut Q X 0 [.ref 0, .int (iI m), .int (iI h)] [] _
  obtain ⟨n1, n12, c1, c4⟩ := wf_n hS
  obtain ⟨q0, q16, r0, r12⟩ := wf_r hS hC
  have h16 := q16
  have h11 := r0
  have h12 := r12
  have hSt : ∀ τ, wfS (su (hst μ n τ)) := fun τ => by rw [su_hst]; exact hS
  have hCt : ∀ τ, wfC (su (hst μ n τ)) σ := fun τ => by rw [su_hst]; exact hC
  by_cases g : rfRb (su μ) σ m h = 0
  · skip
    have g' := g
    unfold rfRb at g'
    have gm : (0 ≤ m ∧ m < su μ 0 7) ∧ (0 ≤ h ∧ h < su μ 0 0) := by
      by_cases g9 : (0 ≤ m ∧ m < su μ 0 7) ∧ (0 ≤ h ∧ h < su μ 0 0)
      · exact g9
      · rw [if_neg g9] at g'; omega
    rw [if_pos gm] at g'
    obtain ⟨k, rfl⟩ := Int.eq_ofNat_of_zero_le gm.2.1
    have gk := gm.2.2
    refine go_aload_n (y := mX10_rebut) (pc := 0) dX10_rebut_0 rfl rfl ?_
    refine go_getR (y := mX10_rebut) (pc := 1) dX10_rebut_1 fl_X10_47 rfl rfl (by decide) ?_
    refine go_iload_n (y := mX10_rebut) (pc := 4) dX10_rebut_4 rfl rfl ?_
    refine go_iload_n (y := mX10_rebut) (pc := 5) dX10_rebut_5 rfl rfl ?_
    refine go_callV2 (y := mX10_rebut) (pc := 6) (y' := mX1_refusalOfRebuttal) (kc2 := 1) (ks2 := 6) dX10_rebut_6 ml_X10_332 ok_X1_refusalOfRebuttal (ch_sh h20 0 (by decide)) ⟨_, _, rfl⟩ (ch_z (r := 0) h20 (by decide)) ⟨rfl, rfl⟩ (by decide) (Nat.le_of_ble_eq_true rfl) rfl (c_refusalOfRebuttal h20 (by omega) (by omega) hS hC (fun v6 e6 b6 => ?_))
    refine go_callS1 (y := mX10_rebut) (pc := 9) (y' := mX10_throwIfRefused) (kc2 := 0) (ks2 := 0) dX10_rebut_9 ml_X10_283 ok_X10_throwIfRefused rfl (by decide) (Nat.le_of_ble_eq_true rfl) rfl (g_tir (by omega) (fun _ => ?_) (fun h9 => absurd (e6.trans g) h9))
    refine go_aload_n (y := mX10_rebut) (pc := 12) dX10_rebut_12 rfl rfl ?_
    refine go_getR (y := mX10_rebut) (pc := 13) dX10_rebut_13 fl_X10_57 rfl rfl (by decide) ?_
    refine go_aload_n (y := mX10_rebut) (pc := 16) dX10_rebut_16 rfl rfl ?_
    refine go_getR (y := mX10_rebut) (pc := 17) dX10_rebut_17 fl_X10_47 rfl rfl (by decide) ?_
    refine go_callV1 (y := mX10_rebut) (pc := 20) (y' := mX2_remember) (kc2 := 0) (ks2 := 0) dX10_rebut_20 ml_X10_139 ok_X2_remember (show shp 62 = _ from rfl) ⟨_, _, rfl⟩ (by decide) rfl (by decide) (Nat.le_of_ble_eq_true rfl) rfl (g_remember hn h1 h2 (fun τ hτ => ?_))
    refine go_mem (show _ = put 20 σ (hst μ n τ) from rfl) ?_
    refine go_aload_n (y := mX10_rebut) (pc := 23) dX10_rebut_23 rfl rfl ?_
    refine go_getR (y := mX10_rebut) (pc := 24) dX10_rebut_24 fl_X10_47 rfl rfl (by decide) ?_
    refine go_iload_n (y := mX10_rebut) (pc := 27) dX10_rebut_27 rfl rfl ?_
    refine go_callV1 (y := mX10_rebut) (pc := 28) (y' := mX1_addRebuttal) (kc2 := 0) (ks2 := 0) dX10_rebut_28 ml_X10_335 ok_X1_addRebuttal (ch_sh h20 0 (by decide)) ⟨_, _, rfl⟩ (ch_z (r := 0) h20 (by decide)) rfl (by decide) (Nat.le_of_ble_eq_true rfl) rfl (c_addRebuttal h20 (h := k) (by omega) ?_)
    refine go_ireturn (y := mX10_rebut) (pc := 31) dX10_rebut_31 rfl ?_
    rw [su_hst]
    exact K k rfl (by omega) g τ hτ
  · skip
    refine go_aload_n (y := mX10_rebut) (pc := 0) dX10_rebut_0 rfl rfl ?_
    refine go_getR (y := mX10_rebut) (pc := 1) dX10_rebut_1 fl_X10_47 rfl rfl (by decide) ?_
    refine go_iload_n (y := mX10_rebut) (pc := 4) dX10_rebut_4 rfl rfl ?_
    refine go_iload_n (y := mX10_rebut) (pc := 5) dX10_rebut_5 rfl rfl ?_
    refine go_callV2 (y := mX10_rebut) (pc := 6) (y' := mX1_refusalOfRebuttal) (kc2 := 1) (ks2 := 6) dX10_rebut_6 ml_X10_332 ok_X1_refusalOfRebuttal (ch_sh h20 0 (by decide)) ⟨_, _, rfl⟩ (ch_z (r := 0) h20 (by decide)) ⟨rfl, rfl⟩ (by decide) (Nat.le_of_ble_eq_true rfl) rfl (c_refusalOfRebuttal h20 (by omega) (by omega) hS hC (fun v6 e6 b6 => ?_))
    refine go_callS1 (y := mX10_rebut) (pc := 9) (y' := mX10_throwIfRefused) (kc2 := 0) (ks2 := 0) dX10_rebut_9 ml_X10_283 ok_X10_throwIfRefused rfl (by decide) (Nat.le_of_ble_eq_true rfl) rfl (g_tir (by omega) (fun h9 => absurd (e6.symm.trans h9) g) (fun _ => by rw [e6]; exact K2 g))
set_option maxRecDepth 8000 in
set_option maxHeartbeats 4000000 in
theorem g_advance {σ μ : Mem} {m : Int} (hm : rng m) {n : Nat} (hn : n < 8) (h1 : μ 62 1 = n) (h2 : 0 ≤ μ 62 2 ∧ μ 62 2 ≤ 8) (hS : wfS (su μ)) (hC : wfC (su μ) σ) {Q : Option Value → Mem → Prop} {X : String → Mem → Prop} (K : ∀ k : Nat, m = k → k ≤ 60 → rfWt σ m = 0 → ∀ τ, eqC τ σ → Q (some (.int (iI ((pms (su μ) σ k).2)))) (put 20 ((pms (su μ) σ k).1) (hst μ n τ))) (K2 : rfWt σ m ≠ 0 → X (exn (rfWt σ m)) (put 20 σ μ)) : mt 276 7 1 6 mX10_advance [.ref 0, .int (iI m)] Q X (put 20 σ μ) := by
  show go 276 7 1 6 mX10_advance Q X 0 [.ref 0, .int (iI m)] [] _
  obtain ⟨n1, n12, c1, c4⟩ := wf_n hS
  obtain ⟨q0, q16, r0, r12⟩ := wf_r hS hC
  have h16 := q16
  have h11 := r0
  have h12 := r12
  have hSt : ∀ τ, wfS (su (hst μ n τ)) := fun τ => by rw [su_hst]; exact hS
  have hCt : ∀ τ, wfC (su (hst μ n τ)) σ := fun τ => by rw [su_hst]; exact hC
  by_cases g : rfWt σ m = 0
  · skip
    have gm : 1 ≤ m ∧ m ≤ 60 := by
      have g' := g
      unfold rfWt at g'
      by_cases g9 : m < 1 ∨ 60 < m
      · rw [if_pos g9] at g'; omega
      · omega
    obtain ⟨k, rfl⟩ := Int.eq_ofNat_of_zero_le (show 0 ≤ m by omega)
    have gk := gm.2
    refine go_aload_n (y := mX10_advance) (pc := 0) dX10_advance_0 rfl rfl ?_
    refine go_getR (y := mX10_advance) (pc := 1) dX10_advance_1 fl_X10_47 rfl rfl (by decide) ?_
    refine go_iload_n (y := mX10_advance) (pc := 4) dX10_advance_4 rfl rfl ?_
    refine go_callV1 (y := mX10_advance) (pc := 5) (y' := mX1_refusalOfWait) (kc2 := 1) (ks2 := 6) dX10_advance_5 ml_X10_338 ok_X1_refusalOfWait (ch_sh h20 0 (by decide)) ⟨_, _, rfl⟩ (ch_z (r := 0) h20 (by decide)) rfl (by decide) (Nat.le_of_ble_eq_true rfl) rfl (c_refusalOfWait h20 (by omega) (fun v5 e5 b5 => ?_))
    refine go_callS1 (y := mX10_advance) (pc := 8) (y' := mX10_throwIfRefused) (kc2 := 0) (ks2 := 0) dX10_advance_8 ml_X10_283 ok_X10_throwIfRefused rfl (by decide) (Nat.le_of_ble_eq_true rfl) rfl (g_tir (by omega) (fun _ => ?_) (fun h9 => absurd (e5.trans g) h9))
    refine go_aload_n (y := mX10_advance) (pc := 11) dX10_advance_11 rfl rfl ?_
    refine go_getR (y := mX10_advance) (pc := 12) dX10_advance_12 fl_X10_57 rfl rfl (by decide) ?_
    refine go_aload_n (y := mX10_advance) (pc := 15) dX10_advance_15 rfl rfl ?_
    refine go_getR (y := mX10_advance) (pc := 16) dX10_advance_16 fl_X10_47 rfl rfl (by decide) ?_
    refine go_callV1 (y := mX10_advance) (pc := 19) (y' := mX2_remember) (kc2 := 0) (ks2 := 0) dX10_advance_19 ml_X10_139 ok_X2_remember (show shp 62 = _ from rfl) ⟨_, _, rfl⟩ (by decide) rfl (by decide) (Nat.le_of_ble_eq_true rfl) rfl (g_remember hn h1 h2 (fun τ hτ => ?_))
    refine go_mem (show _ = put 20 σ (hst μ n τ) from rfl) ?_
    refine go_aload_n (y := mX10_advance) (pc := 22) dX10_advance_22 rfl rfl ?_
    refine go_getR (y := mX10_advance) (pc := 23) dX10_advance_23 fl_X10_47 rfl rfl (by decide) ?_
    refine go_iload_n (y := mX10_advance) (pc := 26) dX10_advance_26 rfl rfl ?_
    refine go_callV1 (y := mX10_advance) (pc := 27) (y' := mX1_passMinutes) (kc2 := 0) (ks2 := 0) dX10_advance_27 ml_X10_341 ok_X1_passMinutes (ch_sh h20 0 (by decide)) ⟨_, _, rfl⟩ (ch_z (r := 0) h20 (by decide)) rfl (by decide) (Nat.le_of_ble_eq_true rfl) rfl (c_passMinutes h20 (hSt _) (hCt _) (n := k) (by omega) ?_)
    refine go_ireturn (y := mX10_advance) (pc := 30) dX10_advance_30 rfl ?_
    rw [su_hst]
    exact K k rfl (by omega) g τ hτ
  · skip
    refine go_aload_n (y := mX10_advance) (pc := 0) dX10_advance_0 rfl rfl ?_
    refine go_getR (y := mX10_advance) (pc := 1) dX10_advance_1 fl_X10_47 rfl rfl (by decide) ?_
    refine go_iload_n (y := mX10_advance) (pc := 4) dX10_advance_4 rfl rfl ?_
    refine go_callV1 (y := mX10_advance) (pc := 5) (y' := mX1_refusalOfWait) (kc2 := 1) (ks2 := 6) dX10_advance_5 ml_X10_338 ok_X1_refusalOfWait (ch_sh h20 0 (by decide)) ⟨_, _, rfl⟩ (ch_z (r := 0) h20 (by decide)) rfl (by decide) (Nat.le_of_ble_eq_true rfl) rfl (c_refusalOfWait h20 (by omega) (fun v5 e5 b5 => ?_))
    refine go_callS1 (y := mX10_advance) (pc := 8) (y' := mX10_throwIfRefused) (kc2 := 0) (ks2 := 0) dX10_advance_8 ml_X10_283 ok_X10_throwIfRefused rfl (by decide) (Nat.le_of_ble_eq_true rfl) rfl (g_tir (by omega) (fun h9 => absurd (e5.symm.trans h9) g) (fun _ => by rw [e5]; exact K2 g))
set_option maxRecDepth 8000 in
set_option maxHeartbeats 4000000 in
theorem g_vote {σ μ : Mem} {m : Int} (hm : rng m) {n : Nat} (hn : n < 8) (h1 : μ 62 1 = n) (h2 : 0 ≤ μ 62 2 ∧ μ 62 2 ≤ 8) (hS : wfS (su μ)) (hC : wfC (su μ) σ) {Q : Option Value → Mem → Prop} {X : String → Mem → Prop} (K : ∀ k : Nat, m = k → (k : Int) < σ 5 0 → rfVt (su μ) σ m = 0 → ∀ τ, eqC τ σ → Q (some (.int (iI (bI (0 < mgn (su μ) σ k))))) (put 20 (hvo (su μ) σ k) (hst μ n τ))) (K2 : rfVt (su μ) σ m ≠ 0 → X (exn (rfVt (su μ) σ m)) (put 20 σ μ)) : mt 276 7 1 6 mX10_vote [.ref 0, .int (iI m)] Q X (put 20 σ μ) := by
  show go 276 7 1 6 mX10_vote Q X 0 [.ref 0, .int (iI m)] [] _
  obtain ⟨n1, n12, c1, c4⟩ := wf_n hS
  obtain ⟨q0, q16, r0, r12⟩ := wf_r hS hC
  have h16 := q16
  have h11 := r0
  have h12 := r12
  have hSt : ∀ τ, wfS (su (hst μ n τ)) := fun τ => by rw [su_hst]; exact hS
  have hCt : ∀ τ, wfC (su (hst μ n τ)) σ := fun τ => by rw [su_hst]; exact hC
  by_cases g : rfVt (su μ) σ m = 0
  · skip
    have g' := g
    unfold rfVt at g'
    have gm : 0 ≤ m ∧ m < σ 5 0 := by
      by_cases g9 : 0 ≤ m ∧ m < σ 5 0
      · exact g9
      · rw [if_neg g9] at g'; omega
    rw [if_pos gm] at g'
    obtain ⟨k, rfl⟩ := Int.eq_ofNat_of_zero_le gm.1
    have gk := gm.2
    refine go_aload_n (y := mX10_vote) (pc := 0) dX10_vote_0 rfl rfl ?_
    refine go_getR (y := mX10_vote) (pc := 1) dX10_vote_1 fl_X10_47 rfl rfl (by decide) ?_
    refine go_iload_n (y := mX10_vote) (pc := 4) dX10_vote_4 rfl rfl ?_
    refine go_callV1 (y := mX10_vote) (pc := 5) (y' := mX1_refusalOfVote) (kc2 := 1) (ks2 := 6) dX10_vote_5 ml_X10_344 ok_X1_refusalOfVote (ch_sh h20 0 (by decide)) ⟨_, _, rfl⟩ (ch_z (r := 0) h20 (by decide)) rfl (by decide) (Nat.le_of_ble_eq_true rfl) rfl (c_refusalOfVote h20 (by omega) hS h16 (fun v5 e5 b5 => ?_))
    refine go_callS1 (y := mX10_vote) (pc := 8) (y' := mX10_throwIfRefused) (kc2 := 0) (ks2 := 0) dX10_vote_8 ml_X10_283 ok_X10_throwIfRefused rfl (by decide) (Nat.le_of_ble_eq_true rfl) rfl (g_tir (by omega) (fun _ => ?_) (fun h9 => absurd (e5.trans g) h9))
    refine go_aload_n (y := mX10_vote) (pc := 11) dX10_vote_11 rfl rfl ?_
    refine go_getR (y := mX10_vote) (pc := 12) dX10_vote_12 fl_X10_57 rfl rfl (by decide) ?_
    refine go_aload_n (y := mX10_vote) (pc := 15) dX10_vote_15 rfl rfl ?_
    refine go_getR (y := mX10_vote) (pc := 16) dX10_vote_16 fl_X10_47 rfl rfl (by decide) ?_
    refine go_callV1 (y := mX10_vote) (pc := 19) (y' := mX2_remember) (kc2 := 0) (ks2 := 0) dX10_vote_19 ml_X10_139 ok_X2_remember (show shp 62 = _ from rfl) ⟨_, _, rfl⟩ (by decide) rfl (by decide) (Nat.le_of_ble_eq_true rfl) rfl (g_remember hn h1 h2 (fun τ hτ => ?_))
    refine go_mem (show _ = put 20 σ (hst μ n τ) from rfl) ?_
    refine go_aload_n (y := mX10_vote) (pc := 22) dX10_vote_22 rfl rfl ?_
    refine go_getR (y := mX10_vote) (pc := 23) dX10_vote_23 fl_X10_47 rfl rfl (by decide) ?_
    refine go_iload_n (y := mX10_vote) (pc := 26) dX10_vote_26 rfl rfl ?_
    refine go_callV1 (y := mX10_vote) (pc := 27) (y' := mX1_holdVote) (kc2 := 0) (ks2 := 0) dX10_vote_27 ml_X10_347 ok_X1_holdVote (ch_sh h20 0 (by decide)) ⟨_, _, rfl⟩ (ch_z (r := 0) h20 (by decide)) rfl (by decide) (Nat.le_of_ble_eq_true rfl) rfl (c_holdVote h20 (q := k) (by omega) (hSt _) (by omega) (by omega) ?_)
    refine go_zreturn (y := mX10_vote) (pc := 30) dX10_vote_30 rfl (bI_01 _) ?_
    rw [su_hst]
    exact K k rfl (by omega) g τ hτ
  · skip
    refine go_aload_n (y := mX10_vote) (pc := 0) dX10_vote_0 rfl rfl ?_
    refine go_getR (y := mX10_vote) (pc := 1) dX10_vote_1 fl_X10_47 rfl rfl (by decide) ?_
    refine go_iload_n (y := mX10_vote) (pc := 4) dX10_vote_4 rfl rfl ?_
    refine go_callV1 (y := mX10_vote) (pc := 5) (y' := mX1_refusalOfVote) (kc2 := 1) (ks2 := 6) dX10_vote_5 ml_X10_344 ok_X1_refusalOfVote (ch_sh h20 0 (by decide)) ⟨_, _, rfl⟩ (ch_z (r := 0) h20 (by decide)) rfl (by decide) (Nat.le_of_ble_eq_true rfl) rfl (c_refusalOfVote h20 (by omega) hS h16 (fun v5 e5 b5 => ?_))
    refine go_callS1 (y := mX10_vote) (pc := 8) (y' := mX10_throwIfRefused) (kc2 := 0) (ks2 := 0) dX10_vote_8 ml_X10_283 ok_X10_throwIfRefused rfl (by decide) (Nat.le_of_ble_eq_true rfl) rfl (g_tir (by omega) (fun h9 => absurd (e5.symm.trans h9) g) (fun _ => by rw [e5]; exact K2 g))
set_option maxRecDepth 8000 in
set_option maxHeartbeats 4000000 in
theorem g_withdraw {σ μ : Mem} {m : Int} (hm : rng m) {n : Nat} (hn : n < 8) (h1 : μ 62 1 = n) (h2 : 0 ≤ μ 62 2 ∧ μ 62 2 ≤ 8) (hS : wfS (su μ)) (hC : wfC (su μ) σ) {Q : Option Value → Mem → Prop} {X : String → Mem → Prop} (K : ∀ k : Nat, m = k → (k : Int) < σ 5 0 → rfWd σ m = 0 → ∀ τ, eqC τ σ → Q (some (.int (iI (σ 11 0 - clo σ k 3 11 0)))) (put 20 (clo σ k 3) (hst μ n τ))) (K2 : rfWd σ m ≠ 0 → X (exn (rfWd σ m)) (put 20 σ μ)) : mt 276 7 1 6 mX10_withdraw [.ref 0, .int (iI m)] Q X (put 20 σ μ) := by
  show go 276 7 1 6 mX10_withdraw Q X 0 [.ref 0, .int (iI m)] [] _
  obtain ⟨n1, n12, c1, c4⟩ := wf_n hS
  obtain ⟨q0, q16, r0, r12⟩ := wf_r hS hC
  have h16 := q16
  have h11 := r0
  have h12 := r12
  have hSt : ∀ τ, wfS (su (hst μ n τ)) := fun τ => by rw [su_hst]; exact hS
  have hCt : ∀ τ, wfC (su (hst μ n τ)) σ := fun τ => by rw [su_hst]; exact hC
  by_cases g : rfWd σ m = 0
  · skip
    have g' := g
    unfold rfWd at g'
    have gm : 0 ≤ m ∧ m < σ 5 0 := by
      by_cases g9 : 0 ≤ m ∧ m < σ 5 0
      · exact g9
      · rw [if_neg g9] at g'; omega
    rw [if_pos gm] at g'
    obtain ⟨k, rfl⟩ := Int.eq_ofNat_of_zero_le gm.1
    have gk := gm.2
    refine go_aload_n (y := mX10_withdraw) (pc := 0) dX10_withdraw_0 rfl rfl ?_
    refine go_getR (y := mX10_withdraw) (pc := 1) dX10_withdraw_1 fl_X10_47 rfl rfl (by decide) ?_
    refine go_iload_n (y := mX10_withdraw) (pc := 4) dX10_withdraw_4 rfl rfl ?_
    refine go_callV1 (y := mX10_withdraw) (pc := 5) (y' := mX1_refusalOfWithdrawal) (kc2 := 1) (ks2 := 6) dX10_withdraw_5 ml_X10_350 ok_X1_refusalOfWithdrawal (ch_sh h20 0 (by decide)) ⟨_, _, rfl⟩ (ch_z (r := 0) h20 (by decide)) rfl (by decide) (Nat.le_of_ble_eq_true rfl) rfl (c_refusalOfWithdrawal h20 (by omega) h16 (fun v5 e5 b5 => ?_))
    refine go_callS1 (y := mX10_withdraw) (pc := 8) (y' := mX10_throwIfRefused) (kc2 := 0) (ks2 := 0) dX10_withdraw_8 ml_X10_283 ok_X10_throwIfRefused rfl (by decide) (Nat.le_of_ble_eq_true rfl) rfl (g_tir (by omega) (fun _ => ?_) (fun h9 => absurd (e5.trans g) h9))
    refine go_aload_n (y := mX10_withdraw) (pc := 11) dX10_withdraw_11 rfl rfl ?_
    refine go_getR (y := mX10_withdraw) (pc := 12) dX10_withdraw_12 fl_X10_57 rfl rfl (by decide) ?_
    refine go_aload_n (y := mX10_withdraw) (pc := 15) dX10_withdraw_15 rfl rfl ?_
    refine go_getR (y := mX10_withdraw) (pc := 16) dX10_withdraw_16 fl_X10_47 rfl rfl (by decide) ?_
    refine go_callV1 (y := mX10_withdraw) (pc := 19) (y' := mX2_remember) (kc2 := 0) (ks2 := 0) dX10_withdraw_19 ml_X10_139 ok_X2_remember (show shp 62 = _ from rfl) ⟨_, _, rfl⟩ (by decide) rfl (by decide) (Nat.le_of_ble_eq_true rfl) rfl (g_remember hn h1 h2 (fun τ hτ => ?_))
    refine go_mem (show _ = put 20 σ (hst μ n τ) from rfl) ?_
    refine go_aload_n (y := mX10_withdraw) (pc := 22) dX10_withdraw_22 rfl rfl ?_
    refine go_getR (y := mX10_withdraw) (pc := 23) dX10_withdraw_23 fl_X10_47 rfl rfl (by decide) ?_
    refine go_iload_n (y := mX10_withdraw) (pc := 26) dX10_withdraw_26 rfl rfl ?_
    refine go_iconst (y := mX10_withdraw) (pc := 27) dX10_withdraw_27 ?_
    refine go_callV2 (y := mX10_withdraw) (pc := 28) (y' := mX1_closeMotion) (kc2 := 0) (ks2 := 0) dX10_withdraw_28 ml_X10_353 ok_X1_closeMotion (ch_sh h20 0 (by decide)) ⟨_, _, rfl⟩ (ch_z (r := 0) h20 (by decide)) ⟨rfl, rfl⟩ (by decide) (Nat.le_of_ble_eq_true rfl) rfl (c_closeMotion h20 (q := k) (by omega) (by omega) (by omega) (by omega) ?_)
    refine go_ireturn (y := mX10_withdraw) (pc := 31) dX10_withdraw_31 rfl ?_
    exact K k rfl (by omega) g τ hτ
  · skip
    refine go_aload_n (y := mX10_withdraw) (pc := 0) dX10_withdraw_0 rfl rfl ?_
    refine go_getR (y := mX10_withdraw) (pc := 1) dX10_withdraw_1 fl_X10_47 rfl rfl (by decide) ?_
    refine go_iload_n (y := mX10_withdraw) (pc := 4) dX10_withdraw_4 rfl rfl ?_
    refine go_callV1 (y := mX10_withdraw) (pc := 5) (y' := mX1_refusalOfWithdrawal) (kc2 := 1) (ks2 := 6) dX10_withdraw_5 ml_X10_350 ok_X1_refusalOfWithdrawal (ch_sh h20 0 (by decide)) ⟨_, _, rfl⟩ (ch_z (r := 0) h20 (by decide)) rfl (by decide) (Nat.le_of_ble_eq_true rfl) rfl (c_refusalOfWithdrawal h20 (by omega) h16 (fun v5 e5 b5 => ?_))
    refine go_callS1 (y := mX10_withdraw) (pc := 8) (y' := mX10_throwIfRefused) (kc2 := 0) (ks2 := 0) dX10_withdraw_8 ml_X10_283 ok_X10_throwIfRefused rfl (by decide) (Nat.le_of_ble_eq_true rfl) rfl (g_tir (by omega) (fun h9 => absurd (e5.symm.trans h9) g) (fun _ => by rw [e5]; exact K2 g))
set_option maxRecDepth 8000 in
set_option maxHeartbeats 4000000 in
theorem g_sharpen {σ μ : Mem} {m : Int} (hm : rng m) {n : Nat} (hn : n < 8) (h1 : μ 62 1 = n) (h2 : 0 ≤ μ 62 2 ∧ μ 62 2 ≤ 8) (hS : wfS (su μ)) (hC : wfC (su μ) σ) {Q : Option Value → Mem → Prop} {X : String → Mem → Prop} (K : ∀ k : Nat, m = k → (k : Int) < su μ 0 7 → rfSh (su μ) σ m = 0 → ∀ τ, eqC τ σ → Q (some (.int (iI (σ 2 k - 2)))) (put 20 (shp5 σ k) (hst μ n τ))) (K2 : rfSh (su μ) σ m ≠ 0 → X (exn (rfSh (su μ) σ m)) (put 20 σ μ)) : mt 276 7 1 6 mX10_sharpen [.ref 0, .int (iI m)] Q X (put 20 σ μ) := by
  show go 276 7 1 6 mX10_sharpen Q X 0 [.ref 0, .int (iI m)] [] _
  obtain ⟨n1, n12, c1, c4⟩ := wf_n hS
  obtain ⟨q0, q16, r0, r12⟩ := wf_r hS hC
  have h16 := q16
  have h11 := r0
  have h12 := r12
  have hSt : ∀ τ, wfS (su (hst μ n τ)) := fun τ => by rw [su_hst]; exact hS
  have hCt : ∀ τ, wfC (su (hst μ n τ)) σ := fun τ => by rw [su_hst]; exact hC
  by_cases g : rfSh (su μ) σ m = 0
  · skip
    have g' := g
    unfold rfSh at g'
    have gm : 0 ≤ m ∧ m < su μ 0 7 := by
      by_cases g9 : 0 ≤ m ∧ m < su μ 0 7
      · exact g9
      · rw [if_neg g9] at g'; omega
    rw [if_pos gm] at g'
    obtain ⟨k, rfl⟩ := Int.eq_ofNat_of_zero_le gm.1
    have gk := gm.2
    have g2 : 2 ≤ σ 2 k := by
      by_cases g9 : σ 3 k = 5 ∨ σ 2 k < 2
      · rw [Int.toNat_natCast, if_pos g9] at g'; omega
      · omega
    refine go_aload_n (y := mX10_sharpen) (pc := 0) dX10_sharpen_0 rfl rfl ?_
    refine go_getR (y := mX10_sharpen) (pc := 1) dX10_sharpen_1 fl_X10_47 rfl rfl (by decide) ?_
    refine go_iload_n (y := mX10_sharpen) (pc := 4) dX10_sharpen_4 rfl rfl ?_
    refine go_callV1 (y := mX10_sharpen) (pc := 5) (y' := mX1_refusalOfSharpening) (kc2 := 1) (ks2 := 6) dX10_sharpen_5 ml_X10_356 ok_X1_refusalOfSharpening (ch_sh h20 0 (by decide)) ⟨_, _, rfl⟩ (ch_z (r := 0) h20 (by decide)) rfl (by decide) (Nat.le_of_ble_eq_true rfl) rfl (c_refusalOfSharpening h20 (by omega) (by omega) (fun v5 e5 b5 => ?_))
    refine go_callS1 (y := mX10_sharpen) (pc := 8) (y' := mX10_throwIfRefused) (kc2 := 0) (ks2 := 0) dX10_sharpen_8 ml_X10_283 ok_X10_throwIfRefused rfl (by decide) (Nat.le_of_ble_eq_true rfl) rfl (g_tir (by omega) (fun _ => ?_) (fun h9 => absurd (e5.trans g) h9))
    refine go_aload_n (y := mX10_sharpen) (pc := 11) dX10_sharpen_11 rfl rfl ?_
    refine go_getR (y := mX10_sharpen) (pc := 12) dX10_sharpen_12 fl_X10_57 rfl rfl (by decide) ?_
    refine go_aload_n (y := mX10_sharpen) (pc := 15) dX10_sharpen_15 rfl rfl ?_
    refine go_getR (y := mX10_sharpen) (pc := 16) dX10_sharpen_16 fl_X10_47 rfl rfl (by decide) ?_
    refine go_callV1 (y := mX10_sharpen) (pc := 19) (y' := mX2_remember) (kc2 := 0) (ks2 := 0) dX10_sharpen_19 ml_X10_139 ok_X2_remember (show shp 62 = _ from rfl) ⟨_, _, rfl⟩ (by decide) rfl (by decide) (Nat.le_of_ble_eq_true rfl) rfl (g_remember hn h1 h2 (fun τ hτ => ?_))
    refine go_mem (show _ = put 20 σ (hst μ n τ) from rfl) ?_
    refine go_aload_n (y := mX10_sharpen) (pc := 22) dX10_sharpen_22 rfl rfl ?_
    refine go_getR (y := mX10_sharpen) (pc := 23) dX10_sharpen_23 fl_X10_47 rfl rfl (by decide) ?_
    refine go_iload_n (y := mX10_sharpen) (pc := 26) dX10_sharpen_26 rfl rfl ?_
    refine go_callV1 (y := mX10_sharpen) (pc := 27) (y' := mX1_sharpenRazor) (kc2 := 0) (ks2 := 0) dX10_sharpen_27 ml_X10_359 ok_X1_sharpenRazor (ch_sh h20 0 (by decide)) ⟨_, _, rfl⟩ (ch_z (r := 0) h20 (by decide)) rfl (by decide) (Nat.le_of_ble_eq_true rfl) rfl (c_sharpenRazor h20 (m := k) (by omega) (by omega) ?_)
    refine go_ireturn (y := mX10_sharpen) (pc := 30) dX10_sharpen_30 rfl ?_
    exact K k rfl (by omega) g τ hτ
  · skip
    refine go_aload_n (y := mX10_sharpen) (pc := 0) dX10_sharpen_0 rfl rfl ?_
    refine go_getR (y := mX10_sharpen) (pc := 1) dX10_sharpen_1 fl_X10_47 rfl rfl (by decide) ?_
    refine go_iload_n (y := mX10_sharpen) (pc := 4) dX10_sharpen_4 rfl rfl ?_
    refine go_callV1 (y := mX10_sharpen) (pc := 5) (y' := mX1_refusalOfSharpening) (kc2 := 1) (ks2 := 6) dX10_sharpen_5 ml_X10_356 ok_X1_refusalOfSharpening (ch_sh h20 0 (by decide)) ⟨_, _, rfl⟩ (ch_z (r := 0) h20 (by decide)) rfl (by decide) (Nat.le_of_ble_eq_true rfl) rfl (c_refusalOfSharpening h20 (by omega) (by omega) (fun v5 e5 b5 => ?_))
    refine go_callS1 (y := mX10_sharpen) (pc := 8) (y' := mX10_throwIfRefused) (kc2 := 0) (ks2 := 0) dX10_sharpen_8 ml_X10_283 ok_X10_throwIfRefused rfl (by decide) (Nat.le_of_ble_eq_true rfl) rfl (g_tir (by omega) (fun h9 => absurd (e5.symm.trans h9) g) (fun _ => by rw [e5]; exact K2 g))
set_option maxRecDepth 8000 in
set_option maxHeartbeats 4000000 in
theorem g_request {σ μ : Mem} {m q f : Int} (hm : rng m) (hq : rng q) (hf : rng f) {n : Nat} (hn : n < 8) (h1 : μ 62 1 = n) (h2 : 0 ≤ μ 62 2 ∧ μ 62 2 ≤ 8) (hS : wfS (su μ)) (hC : wfC (su μ) σ) {Q : Option Value → Mem → Prop} {X : String → Mem → Prop} (K : ∀ k j : Nat, m = k → q = j → (k : Int) < su μ 0 7 → (j : Int) < σ 5 0 → rfRq (su μ) σ m q = 0 → ∀ τ, eqC τ σ → Q (some (.int (iI (σ 11 0)))) (put 20 (rad σ k j (if f = 0 then -1 else 1)) (hst μ n τ))) (K2 : rfRq (su μ) σ m q ≠ 0 → X (exn (rfRq (su μ) σ m q)) (put 20 σ μ)) : mt 276 7 1 6 mX10_request [.ref 0, .int (iI m), .int (iI q), .int (iI f)] Q X (put 20 σ μ) := by
  show go 276 7 1 6 mX10_request Q X 0 [.ref 0, .int (iI m), .int (iI q), .int (iI f)] [] _
  obtain ⟨n1, n12, c1, c4⟩ := wf_n hS
  obtain ⟨q0, q16, r0, r12⟩ := wf_r hS hC
  have h16 := q16
  have h11 := r0
  have h12 := r12
  have hSt : ∀ τ, wfS (su (hst μ n τ)) := fun τ => by rw [su_hst]; exact hS
  have hCt : ∀ τ, wfC (su (hst μ n τ)) σ := fun τ => by rw [su_hst]; exact hC
  by_cases g : rfRq (su μ) σ m q = 0
  · skip
    have g' := g
    unfold rfRq at g'
    have gm : (0 ≤ m ∧ m < su μ 0 7) ∧ (0 ≤ q ∧ q < σ 5 0) := by
      by_cases g9 : (0 ≤ m ∧ m < su μ 0 7) ∧ (0 ≤ q ∧ q < σ 5 0)
      · exact g9
      · rw [if_neg g9] at g'; omega
    rw [if_pos gm] at g'
    have gp : plc σ m = -1 := by
      by_cases g9 : opn σ q ∧ plc σ m = -1 ∧ tkn σ m = -1
      · exact g9.2.1
      · rw [if_neg g9] at g'; omega
    obtain ⟨k, rfl⟩ := Int.eq_ofNat_of_zero_le gm.1.1
    obtain ⟨j, rfl⟩ := Int.eq_ofNat_of_zero_le gm.2.1
    have gk := gm.1.2
    have gj := gm.2.2
    have h1112 : σ 11 0 < 12 := by
      have w := (wf_rad (d := 1) hS hC gk gj (by omega) gp).1.2.2.2.1
      have e : rad σ k j 1 11 0 = σ 11 0 + 1 := wr_s _ _ _ _
      omega
    refine go_aload_n (y := mX10_request) (pc := 0) dX10_request_0 rfl rfl ?_
    refine go_getR (y := mX10_request) (pc := 1) dX10_request_1 fl_X10_47 rfl rfl (by decide) ?_
    refine go_iload_n (y := mX10_request) (pc := 4) dX10_request_4 rfl rfl ?_
    refine go_iload_n (y := mX10_request) (pc := 5) dX10_request_5 rfl rfl ?_
    refine go_callV2 (y := mX10_request) (pc := 6) (y' := mX1_refusalOfRequest) (kc2 := 1) (ks2 := 6) dX10_request_6 ml_X10_325 ok_X1_refusalOfRequest (ch_sh h20 0 (by decide)) ⟨_, _, rfl⟩ (ch_z (r := 0) h20 (by decide)) ⟨rfl, rfl⟩ (by decide) (Nat.le_of_ble_eq_true rfl) rfl (c_refusalOfRequest h20 (by omega) (by omega) h16 h11 h12 (fun v6 e6 b6 => ?_))
    refine go_callS1 (y := mX10_request) (pc := 9) (y' := mX10_throwIfRefused) (kc2 := 0) (ks2 := 0) dX10_request_9 ml_X10_283 ok_X10_throwIfRefused rfl (by decide) (Nat.le_of_ble_eq_true rfl) rfl (g_tir (by omega) (fun _ => ?_) (fun h9 => absurd (e6.trans g) h9))
    refine go_aload_n (y := mX10_request) (pc := 12) dX10_request_12 rfl rfl ?_
    refine go_getR (y := mX10_request) (pc := 13) dX10_request_13 fl_X10_57 rfl rfl (by decide) ?_
    refine go_aload_n (y := mX10_request) (pc := 16) dX10_request_16 rfl rfl ?_
    refine go_getR (y := mX10_request) (pc := 17) dX10_request_17 fl_X10_47 rfl rfl (by decide) ?_
    refine go_callV1 (y := mX10_request) (pc := 20) (y' := mX2_remember) (kc2 := 0) (ks2 := 0) dX10_request_20 ml_X10_139 ok_X2_remember (show shp 62 = _ from rfl) ⟨_, _, rfl⟩ (by decide) rfl (by decide) (Nat.le_of_ble_eq_true rfl) rfl (g_remember hn h1 h2 (fun τ hτ => ?_))
    refine go_mem (show _ = put 20 σ (hst μ n τ) from rfl) ?_
    refine go_aload_n (y := mX10_request) (pc := 23) dX10_request_23 rfl rfl ?_
    refine go_getR (y := mX10_request) (pc := 24) dX10_request_24 fl_X10_47 rfl rfl (by decide) ?_
    refine go_getR (y := mX10_request) (pc := 27) dX10_request_27 fl_X10_209 (ch_sh h20 0 (by decide)) rfl (ch_z (r := 0) h20 (by decide)) ?_
    refine go_iload_n (y := mX10_request) (pc := 30) dX10_request_30 rfl rfl ?_
    refine go_iload_n (y := mX10_request) (pc := 31) dX10_request_31 rfl rfl ?_
    refine go_iload_n (y := mX10_request) (pc := 32) dX10_request_32 rfl rfl ?_
    refine go_if_eq (y := mX10_request) (pc := 33) (tgt := 40) dX10_request_33 (by decide) (by omega) (fun h33 => ?_) (fun h33 => ?_)
    · skip
      rw [if_pos (by omega)] at K
      refine go_iconst (y := mX10_request) (pc := 40) dX10_request_40 ?_
      refine go_callV3 (y := mX10_request) (pc := 41) (y' := mX5_add) (kc2 := 0) (ks2 := 0) dX10_request_41 ml_X10_328 ok_X5_add (ch_sh h20 11 (by decide)) ⟨_, _, rfl⟩ (ch_z (r := 11) h20 (by decide)) ⟨rfl, rfl, rfl⟩ (by decide) (Nat.le_of_ble_eq_true rfl) rfl (c_add h20 (by omega) (by omega) (by omega) (by omega) (by omega) ?_)
      refine go_ireturn (y := mX10_request) (pc := 44) dX10_request_44 rfl ?_
      exact K k j rfl rfl gk gj g τ hτ
    · skip
      rw [if_neg (by omega)] at K
      refine go_iconst (y := mX10_request) (pc := 36) dX10_request_36 ?_
      refine go_goto (y := mX10_request) (pc := 37) (tgt := 41) dX10_request_37 (by decide) ?_
      refine go_callV3 (y := mX10_request) (pc := 41) (y' := mX5_add) (kc2 := 0) (ks2 := 0) dX10_request_41 ml_X10_328 ok_X5_add (ch_sh h20 11 (by decide)) ⟨_, _, rfl⟩ (ch_z (r := 11) h20 (by decide)) ⟨rfl, rfl, rfl⟩ (by decide) (Nat.le_of_ble_eq_true rfl) rfl (c_add h20 (by omega) (by omega) (by omega) (by omega) (by omega) ?_)
      refine go_ireturn (y := mX10_request) (pc := 44) dX10_request_44 rfl ?_
      exact K k j rfl rfl gk gj g τ hτ
  · skip
    refine go_aload_n (y := mX10_request) (pc := 0) dX10_request_0 rfl rfl ?_
    refine go_getR (y := mX10_request) (pc := 1) dX10_request_1 fl_X10_47 rfl rfl (by decide) ?_
    refine go_iload_n (y := mX10_request) (pc := 4) dX10_request_4 rfl rfl ?_
    refine go_iload_n (y := mX10_request) (pc := 5) dX10_request_5 rfl rfl ?_
    refine go_callV2 (y := mX10_request) (pc := 6) (y' := mX1_refusalOfRequest) (kc2 := 1) (ks2 := 6) dX10_request_6 ml_X10_325 ok_X1_refusalOfRequest (ch_sh h20 0 (by decide)) ⟨_, _, rfl⟩ (ch_z (r := 0) h20 (by decide)) ⟨rfl, rfl⟩ (by decide) (Nat.le_of_ble_eq_true rfl) rfl (c_refusalOfRequest h20 (by omega) (by omega) h16 h11 h12 (fun v6 e6 b6 => ?_))
    refine go_callS1 (y := mX10_request) (pc := 9) (y' := mX10_throwIfRefused) (kc2 := 0) (ks2 := 0) dX10_request_9 ml_X10_283 ok_X10_throwIfRefused rfl (by decide) (Nat.le_of_ble_eq_true rfl) rfl (g_tir (by omega) (fun h9 => absurd (e6.symm.trans h9) g) (fun _ => by rw [e6]; exact K2 g))
set_option maxRecDepth 8000 in
set_option maxHeartbeats 4000000 in
theorem g_setRanking {σ μ : Mem} {m : Int} (hm : rng m) {n : Nat} (hn : n < 8) (h1 : μ 62 1 = n) (h2 : 0 ≤ μ 62 2 ∧ μ 62 2 ≤ 8) (hS : wfS (su μ)) (hC : wfC (su μ) σ) {Q : Option Value → Mem → Prop} {X : String → Mem → Prop} (K : rfRk m = 0 → ∀ τ, eqC τ σ → Q (some (.int (iI (σ 0 6)))) (put 20 (wr σ 0 6 m) (hst μ n τ))) (K2 : rfRk m ≠ 0 → X (exn (rfRk m)) (put 20 σ μ)) : mt 276 7 1 6 mX10_setRanking [.ref 0, .int (iI m)] Q X (put 20 σ μ) := by
  show go 276 7 1 6 mX10_setRanking Q X 0 [.ref 0, .int (iI m), .null] [] _
  obtain ⟨n1, n12, c1, c4⟩ := wf_n hS
  obtain ⟨q0, q16, r0, r12⟩ := wf_r hS hC
  have h16 := q16
  have h11 := r0
  have h12 := r12
  have hSt : ∀ τ, wfS (su (hst μ n τ)) := fun τ => by rw [su_hst]; exact hS
  have hCt : ∀ τ, wfC (su (hst μ n τ)) σ := fun τ => by rw [su_hst]; exact hC
  by_cases g : rfRk m = 0
  · skip
    refine go_iload_n (y := mX10_setRanking) (pc := 0) dX10_setRanking_0 rfl rfl ?_
    refine go_callS1 (y := mX10_setRanking) (pc := 1) (y' := mX1_refusalOfRanking) (kc2 := 1) (ks2 := 6) dX10_setRanking_1 ml_X10_280 ok_X1_refusalOfRanking rfl (by decide) (Nat.le_of_ble_eq_true rfl) rfl (c_refusalOfRanking (by omega) (fun v1 e1 b1 => ?_))
    refine go_callS1 (y := mX10_setRanking) (pc := 4) (y' := mX10_throwIfRefused) (kc2 := 0) (ks2 := 0) dX10_setRanking_4 ml_X10_283 ok_X10_throwIfRefused rfl (by decide) (Nat.le_of_ble_eq_true rfl) rfl (g_tir (by omega) (fun _ => ?_) (fun h9 => absurd (e1.trans g) h9))
    refine go_aload_n (y := mX10_setRanking) (pc := 7) dX10_setRanking_7 rfl rfl ?_
    refine go_getR (y := mX10_setRanking) (pc := 8) dX10_setRanking_8 fl_X10_57 rfl rfl (by decide) ?_
    refine go_aload_n (y := mX10_setRanking) (pc := 11) dX10_setRanking_11 rfl rfl ?_
    refine go_getR (y := mX10_setRanking) (pc := 12) dX10_setRanking_12 fl_X10_47 rfl rfl (by decide) ?_
    refine go_callV1 (y := mX10_setRanking) (pc := 15) (y' := mX2_remember) (kc2 := 0) (ks2 := 0) dX10_setRanking_15 ml_X10_139 ok_X2_remember (show shp 62 = _ from rfl) ⟨_, _, rfl⟩ (by decide) rfl (by decide) (Nat.le_of_ble_eq_true rfl) rfl (g_remember hn h1 h2 (fun τ hτ => ?_))
    refine go_mem (show _ = put 20 σ (hst μ n τ) from rfl) ?_
    refine go_aload_n (y := mX10_setRanking) (pc := 18) dX10_setRanking_18 rfl rfl ?_
    refine go_getR (y := mX10_setRanking) (pc := 19) dX10_setRanking_19 fl_X10_47 rfl rfl (by decide) ?_
    refine go_cget (y := mX10_setRanking) (pc := 22) (r := 0) dX10_setRanking_22 fl_X10_252 h20 (by decide) rfl rfl (by decide) (fun r22 => ?_)
    refine go_istore_n (y := mX10_setRanking) (pc := 25) dX10_setRanking_25 rfl (by decide) ?_
    refine go_aload_n (y := mX10_setRanking) (pc := 26) dX10_setRanking_26 rfl rfl ?_
    refine go_getR (y := mX10_setRanking) (pc := 27) dX10_setRanking_27 fl_X10_47 rfl rfl (by decide) ?_
    refine go_iload_n (y := mX10_setRanking) (pc := 30) dX10_setRanking_30 rfl rfl ?_
    refine go_cput (y := mX10_setRanking) (pc := 31) (r := 0) dX10_setRanking_31 fp_X10_252 h20 (by decide) rfl rfl (by decide) (by omega) ?_
    refine go_iload_n (y := mX10_setRanking) (pc := 34) dX10_setRanking_34 rfl rfl ?_
    refine go_ireturn (y := mX10_setRanking) (pc := 35) dX10_setRanking_35 rfl ?_
    exact K g τ hτ
  · skip
    refine go_iload_n (y := mX10_setRanking) (pc := 0) dX10_setRanking_0 rfl rfl ?_
    refine go_callS1 (y := mX10_setRanking) (pc := 1) (y' := mX1_refusalOfRanking) (kc2 := 1) (ks2 := 6) dX10_setRanking_1 ml_X10_280 ok_X1_refusalOfRanking rfl (by decide) (Nat.le_of_ble_eq_true rfl) rfl (c_refusalOfRanking (by omega) (fun v1 e1 b1 => ?_))
    refine go_callS1 (y := mX10_setRanking) (pc := 4) (y' := mX10_throwIfRefused) (kc2 := 0) (ks2 := 0) dX10_setRanking_4 ml_X10_283 ok_X10_throwIfRefused rfl (by decide) (Nat.le_of_ble_eq_true rfl) rfl (g_tir (by omega) (fun h9 => absurd (e1.symm.trans h9) g) (fun _ => by rw [e1]; exact K2 g))
set_option maxRecDepth 8000 in
set_option maxHeartbeats 4000000 in
theorem g_undo {σ μ : Mem} {n : Nat} (hn : n < 8) (h1 : μ 62 1 = n) (h2 : 0 ≤ μ 62 2 ∧ μ 62 2 ≤ 8) (hS : wfS (su μ)) (hC : wfC (su μ) σ) {Q : Option Value → Mem → Prop} {X : String → Mem → Prop} (K : 1 ≤ μ 62 2 → ∀ k : Nat, (k : Int) = (if 0 < n then (n : Int) - 1 else 7) → ∀ τ, eqC τ (vw (64 + 21 * k) μ) → Q (some (.int (iI (μ 62 2 - 1)))) (put 20 τ (wr (wr μ 62 1 k) 62 2 (μ 62 2 - 1)))) (K2 : μ 62 2 = 0 → X "java/lang/IllegalStateException" (put 20 σ μ)) : mt 276 7 1 6 mX10_undo [.ref 0] Q X (put 20 σ μ) := by
  show go 276 7 1 6 mX10_undo Q X 0 [.ref 0] [] _
  obtain ⟨k, hk⟩ : ∃ k : Nat, (k : Int) = (if 0 < n then (n : Int) - 1 else 7) := by
    by_cases g : 0 < n
    · exact ⟨n - 1, by rw [if_pos g]; omega⟩
    · exact ⟨7, by rw [if_neg g]; omega⟩
  refine go_aload_n (y := mX10_undo) (pc := 0) dX10_undo_0 rfl rfl ?_
  refine go_getR (y := mX10_undo) (pc := 1) dX10_undo_1 fl_X10_57 rfl rfl (by decide) ?_
  refine go_bget (y := mX10_undo) (pc := 4) dX10_undo_4 fl_X10_397 rfl rfl (by decide) (by decide) (fun r4 => ?_)
  refine go_if_ne (y := mX10_undo) (pc := 7) (tgt := 21) dX10_undo_7 (by decide) (by omega) (fun h7 => ?_) (fun h7 => ?_)
  · skip
    refine go_aload_n (y := mX10_undo) (pc := 21) dX10_undo_21 rfl rfl ?_
    refine go_getR (y := mX10_undo) (pc := 22) dX10_undo_22 fl_X10_57 rfl rfl (by decide) ?_
    refine go_aload_n (y := mX10_undo) (pc := 25) dX10_undo_25 rfl rfl ?_
    refine go_getR (y := mX10_undo) (pc := 26) dX10_undo_26 fl_X10_47 rfl rfl (by decide) ?_
    refine go_callV1 (y := mX10_undo) (pc := 29) (y' := mX2_stepBack) (kc2 := 0) (ks2 := 0) dX10_undo_29 ml_X10_400 ok_X2_stepBack (show shp 62 = _ from rfl) ⟨_, _, rfl⟩ (by decide) rfl (by decide) (Nat.le_of_ble_eq_true rfl) rfl (g_stepBack hn h1 (by omega) hk (fun τ hτ => ?_))
    refine go_aload_n (y := mX10_undo) (pc := 32) dX10_undo_32 rfl rfl ?_
    refine go_getR (y := mX10_undo) (pc := 33) dX10_undo_33 fl_X10_57 rfl rfl (by decide) ?_
    refine go_bget (y := mX10_undo) (pc := 36) dX10_undo_36 fl_X10_397 rfl rfl (by decide) (by decide) (fun r36 => ?_)
    refine go_top (b := μ 62 2 - 1) ((wr_s _ _ _ _)) (fun t36 => ?_)
    refine go_ireturn (y := mX10_undo) (pc := 39) dX10_undo_39 rfl ?_
    exact K (by omega) k hk τ hτ
  · skip
    refine go_throwW (y := mX10_undo) (pc := 10) (i := 28) th_S rfl dX10_undo_10 dX10_undo_13 dX10_undo_14 dX10_undo_17 dX10_undo_20 (by decide) (Nat.le_of_ble_eq_true rfl) rfl ?_
    exact K2 h7
