/-! CHAMBER: votes -/
set_option maxRecDepth 8000 in
set_option maxHeartbeats 4000000 in
theorem c_voteOf {c : Nat} (hc : is_ch c) {σ μ : Mem} {m q : Nat} (hm : m < 12) (hq : q < 16) {Q : Option Value → Mem → Prop} {X : String → Mem → Prop} (K : ∀ v, v = vt σ m q → v = 0 ∨ v = 1 ∨ v = -1 → Q (some (.int (iI v))) (put c σ μ)) : mt 276 1 0 0 mX1_voteOf [.ref c, .int (iI (m : Nat)), .int (iI (q : Nat))] Q X (put c σ μ) := by
  show go 276 1 0 0 mX1_voteOf Q X 0 [.ref c, .int (iI (m : Nat)), .int (iI (q : Nat)), .null] [] _
  have J26 : (σ 3 m = 0 ∨ ln σ m q = 0) → go 276 1 0 0 mX1_voteOf Q X 26 [.ref c, .int (iI (m : Nat)), .int (iI (q : Nat)), .int (iI (ln σ m q))] [] (put c σ μ) := by
    intro h
    refine go_iconst (y := mX1_voteOf) (pc := 26) dX1_voteOf_26 ?_
    refine go_ireturn (y := mX1_voteOf) (pc := 27) dX1_voteOf_27 rfl ?_
    exact K _ (by unfold vt; rw [if_pos h]) (by omega)
  refine go_aload_n (y := mX1_voteOf) (pc := 0) dX1_voteOf_0 rfl rfl ?_
  refine go_getR (y := mX1_voteOf) (pc := 1) dX1_voteOf_1 fl_X1_21 (ch_sh hc 0 (by decide)) rfl (ch_z (r := 0) hc (by decide)) ?_
  refine go_iload_n (y := mX1_voteOf) (pc := 4) dX1_voteOf_4 rfl rfl ?_
  refine go_iload_n (y := mX1_voteOf) (pc := 5) dX1_voteOf_5 rfl rfl ?_
  refine go_callV2 (y := mX1_voteOf) (pc := 6) (y' := mX4_leaningOf) (kc2 := 0) (ks2 := 0) dX1_voteOf_6 ml_X1_160 ok_X4_leaningOf (ch_sh hc 5 (by decide)) ⟨_, _, rfl⟩ (ch_z (r := 5) hc (by decide)) ⟨rfl, rfl⟩ (by decide) (Nat.le_of_ble_eq_true rfl) rfl (c_leaningOf hc (m := m) (q := q) (by omega) (by omega) (fun r6 => ?_))
  refine go_istore_n (y := mX1_voteOf) (pc := 9) dX1_voteOf_9 rfl (by decide) ?_
  refine go_aload_n (y := mX1_voteOf) (pc := 10) dX1_voteOf_10 rfl rfl ?_
  refine go_getR (y := mX1_voteOf) (pc := 11) dX1_voteOf_11 fl_X1_12 (ch_sh hc 0 (by decide)) rfl (ch_z (r := 0) hc (by decide)) ?_
  refine go_getR (y := mX1_voteOf) (pc := 14) dX1_voteOf_14 fl_X1_227 (ch_sh hc 1 (by decide)) rfl (ch_z (r := 1) hc (by decide)) ?_
  refine go_iload_n (y := mX1_voteOf) (pc := 17) dX1_voteOf_17 rfl rfl ?_
  refine go_cial (y := mX1_voteOf) (pc := 18) (r := 3) (k := m) dX1_voteOf_18 hc (by decide) rfl (by decide) rfl (by omega) (by decide) (fun r18 => ?_)
  refine go_if_eq (y := mX1_voteOf) (pc := 19) (tgt := 26) dX1_voteOf_19 (by decide) (by omega) (fun h19 => ?_) (fun h19 => ?_)
  · skip
    exact J26 (Or.inl h19)
  · skip
    refine go_iload_n (y := mX1_voteOf) (pc := 22) dX1_voteOf_22 rfl rfl ?_
    refine go_if_ne (y := mX1_voteOf) (pc := 23) (tgt := 28) dX1_voteOf_23 (by decide) (by omega) (fun h23 => ?_) (fun h23 => ?_)
    · skip
      refine go_iload_n (y := mX1_voteOf) (pc := 28) dX1_voteOf_28 rfl rfl ?_
      refine go_if_le (y := mX1_voteOf) (pc := 29) (tgt := 36) dX1_voteOf_29 (by decide) (by omega) (fun h29 => ?_) (fun h29 => ?_)
      · skip
        refine go_iconst (y := mX1_voteOf) (pc := 36) dX1_voteOf_36 ?_
        refine go_ireturn (y := mX1_voteOf) (pc := 37) dX1_voteOf_37 rfl ?_
        exact K _ (by unfold vt; rw [if_neg (by omega), if_neg (by omega)]) (by omega)
      · skip
        refine go_iconst (y := mX1_voteOf) (pc := 32) dX1_voteOf_32 ?_
        refine go_goto (y := mX1_voteOf) (pc := 33) (tgt := 37) dX1_voteOf_33 (by decide) ?_
        refine go_ireturn (y := mX1_voteOf) (pc := 37) dX1_voteOf_37 rfl ?_
        exact K _ (by unfold vt; rw [if_neg (by omega), if_pos (by omega)]) (by omega)
    · skip
      exact J26 (Or.inr h23)
set_option maxRecDepth 8000 in
set_option maxHeartbeats 4000000 in
theorem c_countVoters {c : Nat} (hc : is_ch c) {σ μ : Mem} {q : Nat} (hq : q < 16) (h0 : 0 ≤ su μ 0 7) (h12 : su μ 0 7 ≤ 12) {Q : Option Value → Mem → Prop} {X : String → Mem → Prop} (K : ∀ v, v = nvt (su μ) σ q → 0 ≤ v ∧ v ≤ 12 → Q (some (.int (iI v))) (put c σ μ)) : mt 276 2 0 0 mX1_countVoters [.ref c, .int (iI (q : Nat))] Q X (put c σ μ) := by
  show go 276 2 0 0 mX1_countVoters Q X 0 [.ref c, .int (iI (q : Nat)), .null, .null] [] _
  have hb : ∀ k, 0 ≤ smf (fun m => if vt σ m q = 0 then 0 else 1) k ∧ smf (fun m => if vt σ m q = 0 then 0 else 1) k ≤ k := smf_b01 (fun k => by split <;> omega)
  have loop : ∀ (n k : Nat), (k : Int) + n = su μ 0 7 → go 276 2 0 0 mX1_countVoters Q X 4 [.ref c, .int (iI (q : Nat)), .int (iI (smf (fun m => if vt σ m q = 0 then 0 else 1) k)), .int (iI (k : Nat))] [] (put c σ μ) := by
    intro n
    induction n using Nat.strongRecOn with
    | _ n ih =>
      intro k hk
      have ih' := ih (n - 1)
      refine go_iload_n (y := mX1_countVoters) (pc := 4) dX1_countVoters_4 rfl rfl ?_
      refine go_aload_n (y := mX1_countVoters) (pc := 5) dX1_countVoters_5 rfl rfl ?_
      refine go_getR (y := mX1_countVoters) (pc := 6) dX1_countVoters_6 fl_X1_39 (ch_sh hc 0 (by decide)) rfl (ch_z (r := 0) hc (by decide)) ?_
      refine go_sget (y := mX1_countVoters) (pc := 9) (r := 0) dX1_countVoters_9 fl_X1_104 hc (by decide) rfl rfl (by decide) (fun r9 => ?_)
      refine go_icmp_ge (y := mX1_countVoters) (pc := 12) (tgt := 33) dX1_countVoters_12 (by decide) (by omega) (by omega) (fun h12 => ?_) (fun h12 => ?_)
      · skip
        refine go_iload_n (y := mX1_countVoters) (pc := 33) dX1_countVoters_33 rfl rfl ?_
        refine go_ireturn (y := mX1_countVoters) (pc := 34) dX1_countVoters_34 rfl ?_
        have e : k = (su μ 0 7).toNat := by omega
        subst e
        exact K _ rfl (by have := hb (su μ 0 7).toNat; omega)
      · skip
        refine go_aload_n (y := mX1_countVoters) (pc := 15) dX1_countVoters_15 rfl rfl ?_
        refine go_iload_n (y := mX1_countVoters) (pc := 16) dX1_countVoters_16 rfl rfl ?_
        refine go_iload_n (y := mX1_countVoters) (pc := 17) dX1_countVoters_17 rfl rfl ?_
        refine go_callV2 (y := mX1_countVoters) (pc := 18) (y' := mX1_voteOf) (kc2 := 0) (ks2 := 0) dX1_countVoters_18 ml_X1_230 ok_X1_voteOf (ch_sh hc 0 (by decide)) ⟨_, _, rfl⟩ (ch_z (r := 0) hc (by decide)) ⟨rfl, rfl⟩ (by decide) (Nat.le_of_ble_eq_true rfl) rfl (c_voteOf hc (m := k) (q := q) (by omega) (by omega) (fun v18 e18 b18 => ?_))
        refine go_if_eq (y := mX1_countVoters) (pc := 21) (tgt := 27) dX1_countVoters_21 (by decide) (by omega) (fun h21 => ?_) (fun h21 => ?_)
        · skip
          refine go_iinc (y := mX1_countVoters) (pc := 27) dX1_countVoters_27 rfl (by decide) ?_
          refine go_goto (y := mX1_countVoters) (pc := 30) (tgt := 4) dX1_countVoters_30 (by decide) ?_
          have h := ih' (by omega) (k + 1) (by omega)
          rw [smf, if_pos (e18 ▸ h21)] at h
          simpa using h
        · skip
          refine go_iinc (y := mX1_countVoters) (pc := 24) dX1_countVoters_24 rfl (by decide) ?_
          refine go_iinc (y := mX1_countVoters) (pc := 27) dX1_countVoters_27 rfl (by decide) ?_
          refine go_goto (y := mX1_countVoters) (pc := 30) (tgt := 4) dX1_countVoters_30 (by decide) ?_
          have h := ih' (by omega) (k + 1) (by omega)
          rw [smf, if_neg (fun w => h21 (e18.trans w))] at h
          exact h
  refine go_iconst (y := mX1_countVoters) (pc := 0) dX1_countVoters_0 ?_
  refine go_istore_n (y := mX1_countVoters) (pc := 1) dX1_countVoters_1 rfl (by decide) ?_
  refine go_iconst (y := mX1_countVoters) (pc := 2) dX1_countVoters_2 ?_
  refine go_istore_n (y := mX1_countVoters) (pc := 3) dX1_countVoters_3 rfl (by decide) ?_
  exact loop (su μ 0 7).toNat 0 (by omega)
set_option maxRecDepth 8000 in
set_option maxHeartbeats 4000000 in
theorem c_weightOfVotes {c : Nat} (hc : is_ch c) {σ μ : Mem} {q : Nat} (hq : q < 16) {d : Int} (hd : rng d) (hS : wfS (su μ)) {Q : Option Value → Mem → Prop} {X : String → Mem → Prop} (K : ∀ v, v = wvt (su μ) σ q d → 0 ≤ v ∧ v ≤ 108 → Q (some (.int (iI v))) (put c σ μ)) : mt 276 2 0 0 mX1_weightOfVotes [.ref c, .int (iI (q : Nat)), .int (iI d)] Q X (put c σ μ) := by
  show go 276 2 0 0 mX1_weightOfVotes Q X 0 [.ref c, .int (iI (q : Nat)), .int (iI d), .null, .null] [] _
  have hS' := hS
  unfold wfS at hS'
  obtain ⟨-, -, -, -, -, -, -, -, -, -, -, -, -, -, n1, n2, hmem⟩ := hS'
  have hb : ∀ k : Nat, (k : Int) ≤ su μ 0 7 → 0 ≤ smf (fun m => if vt σ m q = d then su μ 2 m else 0) k ∧ smf (fun m => if vt σ m q = d then su μ 2 m else 0) k ≤ k * 9 := fun k hk => smf_bd (b := 9) (fun i hi => by have := hmem i (by omega); split <;> omega)
  have loop : ∀ (n k : Nat), (k : Int) + n = su μ 0 7 → go 276 2 0 0 mX1_weightOfVotes Q X 5 [.ref c, .int (iI (q : Nat)), .int (iI d), .int (iI (smf (fun m => if vt σ m q = d then su μ 2 m else 0) k)), .int (iI (k : Nat))] [] (put c σ μ) := by
    intro n
    induction n using Nat.strongRecOn with
    | _ n ih =>
      intro k hk
      have ih' := ih (n - 1)
      refine go_iload (y := mX1_weightOfVotes) (pc := 5) dX1_weightOfVotes_5 rfl ?_
      refine go_aload_n (y := mX1_weightOfVotes) (pc := 7) dX1_weightOfVotes_7 rfl rfl ?_
      refine go_getR (y := mX1_weightOfVotes) (pc := 8) dX1_weightOfVotes_8 fl_X1_39 (ch_sh hc 0 (by decide)) rfl (ch_z (r := 0) hc (by decide)) ?_
      refine go_sget (y := mX1_weightOfVotes) (pc := 11) (r := 0) dX1_weightOfVotes_11 fl_X1_104 hc (by decide) rfl rfl (by decide) (fun r11 => ?_)
      refine go_icmp_ge (y := mX1_weightOfVotes) (pc := 14) (tgt := 47) dX1_weightOfVotes_14 (by decide) (by omega) (by omega) (fun h14 => ?_) (fun h14 => ?_)
      · skip
        refine go_iload_n (y := mX1_weightOfVotes) (pc := 47) dX1_weightOfVotes_47 rfl rfl ?_
        refine go_ireturn (y := mX1_weightOfVotes) (pc := 48) dX1_weightOfVotes_48 rfl ?_
        have e : k = (su μ 0 7).toNat := by omega
        subst e
        exact K _ rfl (by have := hb (su μ 0 7).toNat (by omega); omega)
      · skip
        refine go_aload_n (y := mX1_weightOfVotes) (pc := 17) dX1_weightOfVotes_17 rfl rfl ?_
        refine go_iload (y := mX1_weightOfVotes) (pc := 18) dX1_weightOfVotes_18 rfl ?_
        refine go_iload_n (y := mX1_weightOfVotes) (pc := 20) dX1_weightOfVotes_20 rfl rfl ?_
        refine go_callV2 (y := mX1_weightOfVotes) (pc := 21) (y' := mX1_voteOf) (kc2 := 0) (ks2 := 0) dX1_weightOfVotes_21 ml_X1_230 ok_X1_voteOf (ch_sh hc 0 (by decide)) ⟨_, _, rfl⟩ (ch_z (r := 0) hc (by decide)) ⟨rfl, rfl⟩ (by decide) (Nat.le_of_ble_eq_true rfl) rfl (c_voteOf hc (m := k) (q := q) (by omega) (by omega) (fun v21 e21 b21 => ?_))
        refine go_iload_n (y := mX1_weightOfVotes) (pc := 24) dX1_weightOfVotes_24 rfl rfl ?_
        refine go_icmp_ne (y := mX1_weightOfVotes) (pc := 25) (tgt := 41) dX1_weightOfVotes_25 (by decide) (by omega) (by omega) (fun h25 => ?_) (fun h25 => ?_)
        · skip
          refine go_iinc (y := mX1_weightOfVotes) (pc := 41) dX1_weightOfVotes_41 rfl (by decide) ?_
          refine go_goto (y := mX1_weightOfVotes) (pc := 44) (tgt := 5) dX1_weightOfVotes_44 (by decide) ?_
          have h := ih' (by omega) (k + 1) (by omega)
          rw [smf, if_neg (fun w => h25 (e21.trans w))] at h
          simpa using h
        · skip
          refine go_iload_n (y := mX1_weightOfVotes) (pc := 28) dX1_weightOfVotes_28 rfl rfl ?_
          refine go_aload_n (y := mX1_weightOfVotes) (pc := 29) dX1_weightOfVotes_29 rfl rfl ?_
          refine go_getR (y := mX1_weightOfVotes) (pc := 30) dX1_weightOfVotes_30 fl_X1_39 (ch_sh hc 0 (by decide)) rfl (ch_z (r := 0) hc (by decide)) ?_
          refine go_getR (y := mX1_weightOfVotes) (pc := 33) dX1_weightOfVotes_33 fl_X1_175 rfl rfl (by decide) ?_
          refine go_iload (y := mX1_weightOfVotes) (pc := 36) dX1_weightOfVotes_36 rfl ?_
          refine go_sial (y := mX1_weightOfVotes) (pc := 38) (r := 2) (k := k) dX1_weightOfVotes_38 hc (by decide) rfl (by decide) rfl (by omega) (by decide) (fun r38 => ?_)
          refine go_iadd (y := mX1_weightOfVotes) (pc := 39) dX1_weightOfVotes_39 ?_
          refine go_istore_n (y := mX1_weightOfVotes) (pc := 40) dX1_weightOfVotes_40 rfl (by decide) ?_
          refine go_iinc (y := mX1_weightOfVotes) (pc := 41) dX1_weightOfVotes_41 rfl (by decide) ?_
          refine go_goto (y := mX1_weightOfVotes) (pc := 44) (tgt := 5) dX1_weightOfVotes_44 (by decide) ?_
          have h := ih' (by omega) (k + 1) (by omega)
          rw [smf, if_pos (e21 ▸ h25)] at h
          exact h
  refine go_iconst (y := mX1_weightOfVotes) (pc := 0) dX1_weightOfVotes_0 ?_
  refine go_istore_n (y := mX1_weightOfVotes) (pc := 1) dX1_weightOfVotes_1 rfl (by decide) ?_
  refine go_iconst (y := mX1_weightOfVotes) (pc := 2) dX1_weightOfVotes_2 ?_
  refine go_istore (y := mX1_weightOfVotes) (pc := 3) dX1_weightOfVotes_3 (by decide) ?_
  exact loop (su μ 0 7).toNat 0 (by omega)
set_option maxRecDepth 8000 in
set_option maxHeartbeats 4000000 in
theorem c_marginOf {c : Nat} (hc : is_ch c) {σ μ : Mem} {q : Nat} (hq : q < 16) (hS : wfS (su μ)) {Q : Option Value → Mem → Prop} {X : String → Mem → Prop} (K : ∀ v, v = mgn (su μ) σ q → -108 ≤ v ∧ v ≤ 108 → Q (some (.int (iI v))) (put c σ μ)) : mt 276 3 0 0 mX1_marginOf [.ref c, .int (iI (q : Nat))] Q X (put c σ μ) := by
  show go 276 3 0 0 mX1_marginOf Q X 0 [.ref c, .int (iI (q : Nat))] [] _
  refine go_aload_n (y := mX1_marginOf) (pc := 0) dX1_marginOf_0 rfl rfl ?_
  refine go_iload_n (y := mX1_marginOf) (pc := 1) dX1_marginOf_1 rfl rfl ?_
  refine go_iconst (y := mX1_marginOf) (pc := 2) dX1_marginOf_2 ?_
  refine go_callV2 (y := mX1_marginOf) (pc := 3) (y' := mX1_weightOfVotes) (kc2 := 0) (ks2 := 0) dX1_marginOf_3 ml_X1_233 ok_X1_weightOfVotes (ch_sh hc 0 (by decide)) ⟨_, _, rfl⟩ (ch_z (r := 0) hc (by decide)) ⟨rfl, rfl⟩ (by decide) (Nat.le_of_ble_eq_true rfl) rfl (c_weightOfVotes hc (q := q) (by omega) (by omega) hS (fun v3 e3 b3 => ?_))
  refine go_aload_n (y := mX1_marginOf) (pc := 6) dX1_marginOf_6 rfl rfl ?_
  refine go_iload_n (y := mX1_marginOf) (pc := 7) dX1_marginOf_7 rfl rfl ?_
  refine go_iconst (y := mX1_marginOf) (pc := 8) dX1_marginOf_8 ?_
  refine go_callV2 (y := mX1_marginOf) (pc := 9) (y' := mX1_weightOfVotes) (kc2 := 0) (ks2 := 0) dX1_marginOf_9 ml_X1_233 ok_X1_weightOfVotes (ch_sh hc 0 (by decide)) ⟨_, _, rfl⟩ (ch_z (r := 0) hc (by decide)) ⟨rfl, rfl⟩ (by decide) (Nat.le_of_ble_eq_true rfl) rfl (c_weightOfVotes hc (q := q) (by omega) (by omega) hS (fun v9 e9 b9 => ?_))
  refine go_isub (y := mX1_marginOf) (pc := 12) dX1_marginOf_12 ?_
  refine go_ireturn (y := mX1_marginOf) (pc := 13) dX1_marginOf_13 rfl ?_
  exact K _ (by unfold mgn; rw [e3, e9]) (by omega)
set_option maxRecDepth 8000 in
set_option maxHeartbeats 4000000 in
theorem c_obstacleTo {c : Nat} (hc : is_ch c) {σ μ : Mem} {q : Int} (hq : rng q) (hS : wfS (su μ)) (h16 : σ 5 0 ≤ 16) {Q : Option Value → Mem → Prop} {X : String → Mem → Prop} (K : ∀ v, v = obo (su μ) σ q → 0 ≤ v ∧ v ≤ 4 → Q (some (.int (iI v))) (put c σ μ)) : mt 276 3 0 0 mX1_obstacleTo [.ref c, .int (iI q)] Q X (put c σ μ) := by
  show go 276 3 0 0 mX1_obstacleTo Q X 0 [.ref c, .int (iI q)] [] _
  have n1 : 1 ≤ su μ 0 7 := hS.2.2.2.2.2.2.2.2.2.2.2.2.2.2.1
  have n2 : su μ 0 7 ≤ 12 := hS.2.2.2.2.2.2.2.2.2.2.2.2.2.2.2.1
  refine go_aload_n (y := mX1_obstacleTo) (pc := 0) dX1_obstacleTo_0 rfl rfl ?_
  refine go_getR (y := mX1_obstacleTo) (pc := 1) dX1_obstacleTo_1 fl_X1_21 (ch_sh hc 0 (by decide)) rfl (ch_z (r := 0) hc (by decide)) ?_
  refine go_iload_n (y := mX1_obstacleTo) (pc := 4) dX1_obstacleTo_4 rfl rfl ?_
  refine go_callV1 (y := mX1_obstacleTo) (pc := 5) (y' := mX4_isOpen) (kc2 := 0) (ks2 := 0) dX1_obstacleTo_5 ml_X1_123 ok_X4_isOpen (ch_sh hc 5 (by decide)) ⟨_, _, rfl⟩ (ch_z (r := 5) hc (by decide)) rfl (by decide) (Nat.le_of_ble_eq_true rfl) rfl (c_isOpen hc (by omega) h16 (fun v5 e5 b5 => ?_))
  refine go_if_ne (y := mX1_obstacleTo) (pc := 8) (tgt := 13) dX1_obstacleTo_8 (by decide) (by omega) (fun h8 => ?_) (fun h8 => ?_)
  · skip
    have g := bI_1 e5 h8
    obtain ⟨k, rfl⟩ := Int.eq_ofNat_of_zero_le g.1
    have hk : k < 16 := by omega
    have g7 : ¬ σ 7 k ≠ 0 := fun w => w g.2.2
    have ek : (Int.ofNat k).toNat = k := rfl
    refine go_aload_n (y := mX1_obstacleTo) (pc := 13) dX1_obstacleTo_13 rfl rfl ?_
    refine go_getR (y := mX1_obstacleTo) (pc := 14) dX1_obstacleTo_14 fl_X1_21 (ch_sh hc 0 (by decide)) rfl (ch_z (r := 0) hc (by decide)) ?_
    refine go_getR (y := mX1_obstacleTo) (pc := 17) dX1_obstacleTo_17 fl_X1_98 (ch_sh hc 5 (by decide)) rfl (ch_z (r := 5) hc (by decide)) ?_
    refine go_iload_n (y := mX1_obstacleTo) (pc := 20) dX1_obstacleTo_20 rfl rfl ?_
    refine go_cial (y := mX1_obstacleTo) (pc := 21) (r := 8) (k := k) dX1_obstacleTo_21 hc (by decide) rfl (by decide) rfl (by omega) (by decide) (fun r21 => ?_)
    refine go_aload_n (y := mX1_obstacleTo) (pc := 22) dX1_obstacleTo_22 rfl rfl ?_
    refine go_getR (y := mX1_obstacleTo) (pc := 23) dX1_obstacleTo_23 fl_X1_39 (ch_sh hc 0 (by decide)) rfl (ch_z (r := 0) hc (by decide)) ?_
    refine go_sget (y := mX1_obstacleTo) (pc := 26) (r := 0) dX1_obstacleTo_26 fl_X1_239 hc (by decide) rfl rfl (by decide) (fun r26 => ?_)
    refine go_icmp_ge (y := mX1_obstacleTo) (pc := 29) (tgt := 34) dX1_obstacleTo_29 (by decide) (by omega) (by omega) (fun h29 => ?_) (fun h29 => ?_)
    · skip
      have g2 : ¬ σ 8 k < su μ 0 5 := by omega
      refine go_aload_n (y := mX1_obstacleTo) (pc := 34) dX1_obstacleTo_34 rfl rfl ?_
      refine go_getR (y := mX1_obstacleTo) (pc := 35) dX1_obstacleTo_35 fl_X1_35 (ch_sh hc 0 (by decide)) rfl (ch_z (r := 0) hc (by decide)) ?_
      refine go_iload_n (y := mX1_obstacleTo) (pc := 38) dX1_obstacleTo_38 rfl rfl ?_
      refine go_callV1 (y := mX1_obstacleTo) (pc := 39) (y' := mX0_isSpeechAbout) (kc2 := 0) (ks2 := 0) dX1_obstacleTo_39 ml_X1_126 ok_X0_isSpeechAbout (ch_sh hc 15 (by decide)) ⟨_, _, rfl⟩ (ch_z (r := 15) hc (by decide)) rfl (by decide) (Nat.le_of_ble_eq_true rfl) rfl (c_isSpeechAbout hc (by omega) (fun v39 e39 b39 => ?_))
      refine go_if_eq (y := mX1_obstacleTo) (pc := 42) (tgt := 47) dX1_obstacleTo_42 (by decide) (by omega) (fun h42 => ?_) (fun h42 => ?_)
      · skip
        have g3 := bI_0 e39 h42
        refine go_aload_n (y := mX1_obstacleTo) (pc := 47) dX1_obstacleTo_47 rfl rfl ?_
        refine go_iload_n (y := mX1_obstacleTo) (pc := 48) dX1_obstacleTo_48 rfl rfl ?_
        refine go_callV1 (y := mX1_obstacleTo) (pc := 49) (y' := mX1_countVoters) (kc2 := 0) (ks2 := 0) dX1_obstacleTo_49 ml_X1_242 ok_X1_countVoters (ch_sh hc 0 (by decide)) ⟨_, _, rfl⟩ (ch_z (r := 0) hc (by decide)) rfl (by decide) (Nat.le_of_ble_eq_true rfl) rfl (c_countVoters hc (q := k) (by omega) (by omega) (by omega) (fun v49 e49 b49 => ?_))
        refine go_aload_n (y := mX1_obstacleTo) (pc := 52) dX1_obstacleTo_52 rfl rfl ?_
        refine go_getR (y := mX1_obstacleTo) (pc := 53) dX1_obstacleTo_53 fl_X1_39 (ch_sh hc 0 (by decide)) rfl (ch_z (r := 0) hc (by decide)) ?_
        refine go_sget (y := mX1_obstacleTo) (pc := 56) (r := 0) dX1_obstacleTo_56 fl_X1_245 hc (by decide) rfl rfl (by decide) (fun r56 => ?_)
        refine go_icmp_ge (y := mX1_obstacleTo) (pc := 59) (tgt := 66) dX1_obstacleTo_59 (by decide) (by omega) (by omega) (fun h59 => ?_) (fun h59 => ?_)
        · skip
          have g4 : ¬ nvt (su μ) σ k < su μ 0 6 := by omega
          refine go_iconst (y := mX1_obstacleTo) (pc := 66) dX1_obstacleTo_66 ?_
          refine go_ireturn (y := mX1_obstacleTo) (pc := 67) dX1_obstacleTo_67 rfl ?_
          exact K _ (by unfold obo; rw [if_pos g]; show _ = obs (su μ) σ k; unfold obs; rw [if_neg g7, if_neg g2, if_neg g3, if_neg g4]) (by omega)
        · skip
          have g4 : nvt (su μ) σ k < su μ 0 6 := by omega
          refine go_iconst (y := mX1_obstacleTo) (pc := 62) dX1_obstacleTo_62 ?_
          refine go_goto (y := mX1_obstacleTo) (pc := 63) (tgt := 67) dX1_obstacleTo_63 (by decide) ?_
          refine go_ireturn (y := mX1_obstacleTo) (pc := 67) dX1_obstacleTo_67 rfl ?_
          exact K _ (by unfold obo; rw [if_pos g]; show _ = obs (su μ) σ k; unfold obs; rw [if_neg g7, if_neg g2, if_neg g3, if_pos g4]) (by omega)
      · skip
        have g3 := bI_1 e39 h42
        refine go_iconst (y := mX1_obstacleTo) (pc := 45) dX1_obstacleTo_45 ?_
        refine go_ireturn (y := mX1_obstacleTo) (pc := 46) dX1_obstacleTo_46 rfl ?_
        exact K _ (by unfold obo; rw [if_pos g]; show _ = obs (su μ) σ k; unfold obs; rw [if_neg g7, if_neg g2, if_pos g3]) (by omega)
    · skip
      have g2 : σ 8 k < su μ 0 5 := h29
      refine go_iconst (y := mX1_obstacleTo) (pc := 32) dX1_obstacleTo_32 ?_
      refine go_ireturn (y := mX1_obstacleTo) (pc := 33) dX1_obstacleTo_33 rfl ?_
      exact K _ (by unfold obo; rw [if_pos g]; show _ = obs (su μ) σ k; unfold obs; rw [if_neg g7, if_pos g2]) (by omega)
  · skip
    have g := bI_0 e5 h8
    refine go_iconst (y := mX1_obstacleTo) (pc := 11) dX1_obstacleTo_11 ?_
    refine go_ireturn (y := mX1_obstacleTo) (pc := 12) dX1_obstacleTo_12 rfl ?_
    exact K _ (by unfold obo; rw [if_neg g]) (by omega)
set_option maxRecDepth 8000 in
set_option maxHeartbeats 4000000 in
theorem c_refusalOfVote {c : Nat} (hc : is_ch c) {σ μ : Mem} {q : Int} (hq : rng q) (hS : wfS (su μ)) (h16 : σ 5 0 ≤ 16) {Q : Option Value → Mem → Prop} {X : String → Mem → Prop} (K : ∀ v, v = rfVt (su μ) σ q → 0 ≤ v ∧ v ≤ 3 → Q (some (.int (iI v))) (put c σ μ)) : mt 276 4 0 0 mX1_refusalOfVote [.ref c, .int (iI q)] Q X (put c σ μ) := by
  show go 276 4 0 0 mX1_refusalOfVote Q X 0 [.ref c, .int (iI q)] [] _
  refine go_aload_n (y := mX1_refusalOfVote) (pc := 0) dX1_refusalOfVote_0 rfl rfl ?_
  refine go_getR (y := mX1_refusalOfVote) (pc := 1) dX1_refusalOfVote_1 fl_X1_21 (ch_sh hc 0 (by decide)) rfl (ch_z (r := 0) hc (by decide)) ?_
  refine go_iload_n (y := mX1_refusalOfVote) (pc := 4) dX1_refusalOfVote_4 rfl rfl ?_
  refine go_callV1 (y := mX1_refusalOfVote) (pc := 5) (y' := mX4_has) (kc2 := 0) (ks2 := 0) dX1_refusalOfVote_5 ml_X1_120 ok_X4_has (ch_sh hc 5 (by decide)) ⟨_, _, rfl⟩ (ch_z (r := 5) hc (by decide)) rfl (by decide) (Nat.le_of_ble_eq_true rfl) rfl (c_has hc (by omega) (fun v5 e5 b5 => ?_))
  refine go_if_ne (y := mX1_refusalOfVote) (pc := 8) (tgt := 13) dX1_refusalOfVote_8 (by decide) (by omega) (fun h8 => ?_) (fun h8 => ?_)
  · skip
    have g := bI_1 e5 h8
    refine go_aload_n (y := mX1_refusalOfVote) (pc := 13) dX1_refusalOfVote_13 rfl rfl ?_
    refine go_iload_n (y := mX1_refusalOfVote) (pc := 14) dX1_refusalOfVote_14 rfl rfl ?_
    refine go_callV1 (y := mX1_refusalOfVote) (pc := 15) (y' := mX1_obstacleTo) (kc2 := 0) (ks2 := 0) dX1_refusalOfVote_15 ml_X1_248 ok_X1_obstacleTo (ch_sh hc 0 (by decide)) ⟨_, _, rfl⟩ (ch_z (r := 0) hc (by decide)) rfl (by decide) (Nat.le_of_ble_eq_true rfl) rfl (c_obstacleTo hc (by omega) hS h16 (fun v15 e15 b15 => ?_))
    refine go_if_ne (y := mX1_refusalOfVote) (pc := 18) (tgt := 25) dX1_refusalOfVote_18 (by decide) (by omega) (fun h18 => ?_) (fun h18 => ?_)
    · skip
      refine go_iconst (y := mX1_refusalOfVote) (pc := 25) dX1_refusalOfVote_25 ?_
      refine go_ireturn (y := mX1_refusalOfVote) (pc := 26) dX1_refusalOfVote_26 rfl ?_
      exact K _ (by unfold rfVt; rw [if_pos g, if_neg (fun w => h18 (e15.trans w))]) (by omega)
    · skip
      refine go_iconst (y := mX1_refusalOfVote) (pc := 21) dX1_refusalOfVote_21 ?_
      refine go_goto (y := mX1_refusalOfVote) (pc := 22) (tgt := 26) dX1_refusalOfVote_22 (by decide) ?_
      refine go_ireturn (y := mX1_refusalOfVote) (pc := 26) dX1_refusalOfVote_26 rfl ?_
      exact K _ (by unfold rfVt; rw [if_pos g, if_pos (e15 ▸ h18)]) (by omega)
  · skip
    have g := bI_0 e5 h8
    refine go_iconst (y := mX1_refusalOfVote) (pc := 11) dX1_refusalOfVote_11 ?_
    refine go_ireturn (y := mX1_refusalOfVote) (pc := 12) dX1_refusalOfVote_12 rfl ?_
    exact K _ (by unfold rfVt; rw [if_neg g]) (by omega)
set_option maxRecDepth 8000 in
set_option maxHeartbeats 4000000 in
theorem c_refusalOfSharpening {c : Nat} (hc : is_ch c) {σ μ : Mem} {m : Int} (hm : rng m) (h12 : su μ 0 7 ≤ 12) {Q : Option Value → Mem → Prop} {X : String → Mem → Prop} (K : ∀ v, v = rfSh (su μ) σ m → 0 ≤ v ∧ v ≤ 3 → Q (some (.int (iI v))) (put c σ μ)) : mt 276 1 0 0 mX1_refusalOfSharpening [.ref c, .int (iI m)] Q X (put c σ μ) := by
  show go 276 1 0 0 mX1_refusalOfSharpening Q X 0 [.ref c, .int (iI m), .null] [] _
  refine go_aload_n (y := mX1_refusalOfSharpening) (pc := 0) dX1_refusalOfSharpening_0 rfl rfl ?_
  refine go_getR (y := mX1_refusalOfSharpening) (pc := 1) dX1_refusalOfSharpening_1 fl_X1_39 (ch_sh hc 0 (by decide)) rfl (ch_z (r := 0) hc (by decide)) ?_
  refine go_iload_n (y := mX1_refusalOfSharpening) (pc := 4) dX1_refusalOfSharpening_4 rfl rfl ?_
  refine go_callV1 (y := mX1_refusalOfSharpening) (pc := 5) (y' := mX7_hasMember) (kc2 := 0) (ks2 := 0) dX1_refusalOfSharpening_5 ml_X1_85 ok_X7_hasMember (show shp 10 = _ from rfl) ⟨_, _, rfl⟩ (by decide) rfl (by decide) (Nat.le_of_ble_eq_true rfl) rfl (s_hasMember hc (by omega) (fun v5 e5 b5 => ?_))
  refine go_if_ne (y := mX1_refusalOfSharpening) (pc := 8) (tgt := 13) dX1_refusalOfSharpening_8 (by decide) (by omega) (fun h8 => ?_) (fun h8 => ?_)
  · skip
    have g := bI_1 e5 h8
    obtain ⟨k, rfl⟩ := Int.eq_ofNat_of_zero_le g.1
    have J31 : ∀ a : Int, (a = 0 ∨ a = 1) → (a = 0 ↔ σ 3 k ≠ 5) → go 276 1 0 0 mX1_refusalOfSharpening Q X 31 [.ref c, .int (iI (k : Nat)), .null] [.int (iI a)] (put c σ μ) := by
      intro a ha ga
      refine go_istore_n (y := mX1_refusalOfSharpening) (pc := 31) dX1_refusalOfSharpening_31 rfl (by decide) ?_
      refine go_iload_n (y := mX1_refusalOfSharpening) (pc := 32) dX1_refusalOfSharpening_32 rfl rfl ?_
      refine go_if_ne (y := mX1_refusalOfSharpening) (pc := 33) (tgt := 49) dX1_refusalOfSharpening_33 (by decide) (by omega) (fun h33 => ?_) (fun h33 => ?_)
      · skip
        refine go_iconst (y := mX1_refusalOfSharpening) (pc := 49) dX1_refusalOfSharpening_49 ?_
        refine go_goto (y := mX1_refusalOfSharpening) (pc := 50) (tgt := 54) dX1_refusalOfSharpening_50 (by decide) ?_
        refine go_ireturn (y := mX1_refusalOfSharpening) (pc := 54) dX1_refusalOfSharpening_54 rfl ?_
        exact K _ (by unfold rfSh; rw [if_pos g, if_pos (Or.inl (by show σ 3 k = 5; omega))]) (by omega)
      · skip
        refine go_aload_n (y := mX1_refusalOfSharpening) (pc := 36) dX1_refusalOfSharpening_36 rfl rfl ?_
        refine go_getR (y := mX1_refusalOfSharpening) (pc := 37) dX1_refusalOfSharpening_37 fl_X1_12 (ch_sh hc 0 (by decide)) rfl (ch_z (r := 0) hc (by decide)) ?_
        refine go_getR (y := mX1_refusalOfSharpening) (pc := 40) dX1_refusalOfSharpening_40 fl_X1_251 (ch_sh hc 1 (by decide)) rfl (ch_z (r := 1) hc (by decide)) ?_
        refine go_iload_n (y := mX1_refusalOfSharpening) (pc := 43) dX1_refusalOfSharpening_43 rfl rfl ?_
        refine go_cial (y := mX1_refusalOfSharpening) (pc := 44) (r := 2) (k := k) dX1_refusalOfSharpening_44 hc (by decide) rfl (by decide) rfl (by omega) (by decide) (fun r44 => ?_)
        refine go_iconst (y := mX1_refusalOfSharpening) (pc := 45) dX1_refusalOfSharpening_45 ?_
        refine go_icmp_ge (y := mX1_refusalOfSharpening) (pc := 46) (tgt := 53) dX1_refusalOfSharpening_46 (by decide) (by omega) (by omega) (fun h46 => ?_) (fun h46 => ?_)
        · skip
          refine go_iconst (y := mX1_refusalOfSharpening) (pc := 53) dX1_refusalOfSharpening_53 ?_
          refine go_ireturn (y := mX1_refusalOfSharpening) (pc := 54) dX1_refusalOfSharpening_54 rfl ?_
          exact K _ (by unfold rfSh; rw [if_pos g, if_neg (by show ¬ (σ 3 k = 5 ∨ σ 2 k < 2); omega)]) (by omega)
        · skip
          refine go_iconst (y := mX1_refusalOfSharpening) (pc := 49) dX1_refusalOfSharpening_49 ?_
          refine go_goto (y := mX1_refusalOfSharpening) (pc := 50) (tgt := 54) dX1_refusalOfSharpening_50 (by decide) ?_
          refine go_ireturn (y := mX1_refusalOfSharpening) (pc := 54) dX1_refusalOfSharpening_54 rfl ?_
          exact K _ (by unfold rfSh; rw [if_pos g, if_pos (Or.inr (by show σ 2 k < 2; omega))]) (by omega)
    refine go_aload_n (y := mX1_refusalOfSharpening) (pc := 13) dX1_refusalOfSharpening_13 rfl rfl ?_
    refine go_getR (y := mX1_refusalOfSharpening) (pc := 14) dX1_refusalOfSharpening_14 fl_X1_12 (ch_sh hc 0 (by decide)) rfl (ch_z (r := 0) hc (by decide)) ?_
    refine go_getR (y := mX1_refusalOfSharpening) (pc := 17) dX1_refusalOfSharpening_17 fl_X1_227 (ch_sh hc 1 (by decide)) rfl (ch_z (r := 1) hc (by decide)) ?_
    refine go_iload_n (y := mX1_refusalOfSharpening) (pc := 20) dX1_refusalOfSharpening_20 rfl rfl ?_
    refine go_cial (y := mX1_refusalOfSharpening) (pc := 21) (r := 3) (k := k) dX1_refusalOfSharpening_21 hc (by decide) rfl (by decide) rfl (by omega) (by decide) (fun r21 => ?_)
    refine go_iconst (y := mX1_refusalOfSharpening) (pc := 22) dX1_refusalOfSharpening_22 ?_
    refine go_icmp_ne (y := mX1_refusalOfSharpening) (pc := 23) (tgt := 30) dX1_refusalOfSharpening_23 (by decide) (by omega) (by omega) (fun h23 => ?_) (fun h23 => ?_)
    · skip
      refine go_iconst (y := mX1_refusalOfSharpening) (pc := 30) dX1_refusalOfSharpening_30 ?_
      exact J31 _ (Or.inl rfl) (by omega)
    · skip
      refine go_iconst (y := mX1_refusalOfSharpening) (pc := 26) dX1_refusalOfSharpening_26 ?_
      refine go_goto (y := mX1_refusalOfSharpening) (pc := 27) (tgt := 31) dX1_refusalOfSharpening_27 (by decide) ?_
      exact J31 _ (Or.inr rfl) (by omega)
  · skip
    have g := bI_0 e5 h8
    refine go_iconst (y := mX1_refusalOfSharpening) (pc := 11) dX1_refusalOfSharpening_11 ?_
    refine go_ireturn (y := mX1_refusalOfSharpening) (pc := 12) dX1_refusalOfSharpening_12 rfl ?_
    exact K _ (by unfold rfSh; rw [if_neg g]) (by omega)
set_option maxRecDepth 8000 in
set_option maxHeartbeats 4000000 in
theorem c_sharpenRazor {c : Nat} (hc : is_ch c) {σ μ : Mem} {m : Nat} (hm : m < 12) (h2 : 2 ≤ σ 2 m) {Q : Option Value → Mem → Prop} {X : String → Mem → Prop} (K : Q (some (.int (iI (σ 2 m - 2)))) (put c (shp5 σ m) μ)) : mt 276 0 0 0 mX1_sharpenRazor [.ref c, .int (iI (m : Nat))] Q X (put c σ μ) := by
  show go 276 0 0 0 mX1_sharpenRazor Q X 0 [.ref c, .int (iI (m : Nat))] [] _
  refine go_aload_n (y := mX1_sharpenRazor) (pc := 0) dX1_sharpenRazor_0 rfl rfl ?_
  refine go_getR (y := mX1_sharpenRazor) (pc := 1) dX1_sharpenRazor_1 fl_X1_12 (ch_sh hc 0 (by decide)) rfl (ch_z (r := 0) hc (by decide)) ?_
  refine go_getR (y := mX1_sharpenRazor) (pc := 4) dX1_sharpenRazor_4 fl_X1_251 (ch_sh hc 1 (by decide)) rfl (ch_z (r := 1) hc (by decide)) ?_
  refine go_iload_n (y := mX1_sharpenRazor) (pc := 7) dX1_sharpenRazor_7 rfl rfl ?_
  refine go_dup2 (y := mX1_sharpenRazor) (pc := 8) dX1_sharpenRazor_8 rfl rfl ?_
  refine go_cial (y := mX1_sharpenRazor) (pc := 9) (r := 2) (k := m) dX1_sharpenRazor_9 hc (by decide) rfl (by decide) rfl (by omega) (by decide) (fun r9 => ?_)
  refine go_iconst (y := mX1_sharpenRazor) (pc := 10) dX1_sharpenRazor_10 ?_
  refine go_isub (y := mX1_sharpenRazor) (pc := 11) dX1_sharpenRazor_11 ?_
  refine go_cias (y := mX1_sharpenRazor) (pc := 12) (r := 2) (k := m) dX1_sharpenRazor_12 hc (by decide) rfl (by decide) rfl (by omega) (by decide) (by omega) ?_
  refine go_aload_n (y := mX1_sharpenRazor) (pc := 13) dX1_sharpenRazor_13 rfl rfl ?_
  refine go_getR (y := mX1_sharpenRazor) (pc := 14) dX1_sharpenRazor_14 fl_X1_12 (ch_sh hc 0 (by decide)) rfl (ch_z (r := 0) hc (by decide)) ?_
  refine go_getR (y := mX1_sharpenRazor) (pc := 17) dX1_sharpenRazor_17 fl_X1_227 (ch_sh hc 1 (by decide)) rfl (ch_z (r := 1) hc (by decide)) ?_
  refine go_iload_n (y := mX1_sharpenRazor) (pc := 20) dX1_sharpenRazor_20 rfl rfl ?_
  refine go_iconst (y := mX1_sharpenRazor) (pc := 21) dX1_sharpenRazor_21 ?_
  refine go_cias (y := mX1_sharpenRazor) (pc := 22) (r := 3) (k := m) dX1_sharpenRazor_22 hc (by decide) rfl (by decide) rfl (by omega) (by decide) (by omega) ?_
  refine go_aload_n (y := mX1_sharpenRazor) (pc := 23) dX1_sharpenRazor_23 rfl rfl ?_
  refine go_dup (y := mX1_sharpenRazor) (pc := 24) dX1_sharpenRazor_24 rfl ?_
  refine go_cget (y := mX1_sharpenRazor) (pc := 25) (r := 0) dX1_sharpenRazor_25 fl_X1_69 hc (by decide) rfl rfl (by decide) (fun r25 => ?_)
  refine go_iconst (y := mX1_sharpenRazor) (pc := 28) dX1_sharpenRazor_28 ?_
  refine go_iadd (y := mX1_sharpenRazor) (pc := 29) dX1_sharpenRazor_29 ?_
  refine go_cputW (y := mX1_sharpenRazor) (pc := 30) (r := 0) dX1_sharpenRazor_30 fp_X1_69 hc (by decide) rfl rfl (by decide)  ?_
  refine go_aload_n (y := mX1_sharpenRazor) (pc := 33) dX1_sharpenRazor_33 rfl rfl ?_
  refine go_getR (y := mX1_sharpenRazor) (pc := 34) dX1_sharpenRazor_34 fl_X1_12 (ch_sh hc 0 (by decide)) rfl (ch_z (r := 0) hc (by decide)) ?_
  refine go_getR (y := mX1_sharpenRazor) (pc := 37) dX1_sharpenRazor_37 fl_X1_251 (ch_sh hc 1 (by decide)) rfl (ch_z (r := 1) hc (by decide)) ?_
  refine go_iload_n (y := mX1_sharpenRazor) (pc := 40) dX1_sharpenRazor_40 rfl rfl ?_
  refine go_cial (y := mX1_sharpenRazor) (pc := 41) (r := 2) (k := m) dX1_sharpenRazor_41 hc (by decide) rfl (by decide) rfl (by omega) (by decide) (fun r41 => ?_)
  refine go_top (b := σ 2 m - 2) (by rw [wr_na (by decide), wr_na (by decide), wr_s]) (fun t41 => ?_)
  refine go_ireturn (y := mX1_sharpenRazor) (pc := 42) dX1_sharpenRazor_42 rfl ?_
  exact K
theorem vt_hv {s t : Mem} {m q : Nat} (h3 : t 3 m = s 3 m) (h10 : ln t m q = ln s m q) : vt t m q = vt s m q := by unfold vt; rw [h3, h10]
theorem hv1_o {s : Mem} {q : Nat} {w : Int} {k r j : Nat} (h : r ≠ 3) : hv1 s q w k r j = s r j := by
  unfold hv1; split
  · rfl
  · exact wr_na h
theorem hv2_o {s : Mem} {v w : Int} {k r j : Nat} (h : r ≠ 2 ∧ r ≠ 0) : hv2 s v w k r j = s r j := by
  unfold hv2; split
  · rw [wr_na h.2, wr_na h.1]
  · rfl
theorem hvk_o {s : Mem} {q : Nat} {w : Int} {r j : Nat} (h : r ≠ 0 ∧ r ≠ 2 ∧ r ≠ 3) : ∀ k, hvk s q w k r j = s r j
  | 0 => rfl
  | k + 1 => by rw [hvk, hv2_o ⟨h.2.1, h.1⟩, hv1_o h.2.2, hvk_o h k]
set_option maxRecDepth 8000 in
set_option maxHeartbeats 4000000 in
theorem c_holdVote {c : Nat} (hc : is_ch c) {σ μ : Mem} {q : Nat} (hq : q < 16) (hS : wfS (su μ)) (h0 : 0 ≤ σ 11 0) (h12 : σ 11 0 ≤ 12) {Q : Option Value → Mem → Prop} {X : String → Mem → Prop} (K : Q (some (.int (iI (bI (0 < mgn (su μ) σ q))))) (put c (hvo (su μ) σ q) μ)) : mt 276 4 0 0 mX1_holdVote [.ref c, .int (iI (q : Nat))] Q X (put c σ μ) := by
  show go 276 4 0 0 mX1_holdVote Q X 0 [.ref c, .int (iI (q : Nat)), .null, .null, .null, .null] [] _
  have n1 : 1 ≤ su μ 0 7 := hS.2.2.2.2.2.2.2.2.2.2.2.2.2.2.1
  have n2 : su μ 0 7 ≤ 12 := hS.2.2.2.2.2.2.2.2.2.2.2.2.2.2.2.1
  unfold hvo at K
  have J13 : ∀ a w : Int, a = bI (0 < mgn (su μ) σ q) → (w = if 0 < mgn (su μ) σ q then 1 else -1) → (a = 0 ∨ a = 1) → (w = 1 ∨ w = -1) → go 276 4 0 0 mX1_holdVote Q X 23 [.ref c, .int (iI (q : Nat)), .int (iI a), .null, .null, .null] [.int (iI w)] (put c σ μ) := by
    intro a w ha hw ga gw
    have o11 : hvk σ q w (su μ 0 7).toNat 11 0 = σ 11 0 := hvk_o (by decide) _
    rw [← hw, ← ha] at K
    have loop : ∀ (n k : Nat) (u : Value), (k : Int) + n = su μ 0 7 → go 276 4 0 0 mX1_holdVote Q X 27 [.ref c, .int (iI (q : Nat)), .int (iI a), .int (iI w), .int (iI (k : Nat)), u] [] (put c (hvk σ q w k) μ) := by
      intro n
      induction n using Nat.strongRecOn with
      | _ n ih =>
        intro k u hk
        have ih' := ih (n - 1)
        refine go_iload (y := mX1_holdVote) (pc := 27) dX1_holdVote_27 rfl ?_
        refine go_aload_n (y := mX1_holdVote) (pc := 29) dX1_holdVote_29 rfl rfl ?_
        refine go_getR (y := mX1_holdVote) (pc := 30) dX1_holdVote_30 fl_X1_39 (ch_sh hc 0 (by decide)) rfl (ch_z (r := 0) hc (by decide)) ?_
        refine go_sget (y := mX1_holdVote) (pc := 33) (r := 0) dX1_holdVote_33 fl_X1_104 hc (by decide) rfl rfl (by decide) (fun r33 => ?_)
        refine go_icmp_ge (y := mX1_holdVote) (pc := 36) (tgt := 116) dX1_holdVote_36 (by decide) (by omega) (by omega) (fun h36 => ?_) (fun h36 => ?_)
        · skip
          have e : k = (su μ 0 7).toNat := by omega
          subst e
          by_cases g : 0 < mgn (su μ) σ q
          · have ga1 : a = 1 := by rw [ha, bI_t g]
            subst ga1
            rw [if_pos g] at K
            refine go_aload_n (y := mX1_holdVote) (pc := 116) dX1_holdVote_116 rfl rfl ?_
            refine go_iload_n (y := mX1_holdVote) (pc := 117) dX1_holdVote_117 rfl rfl ?_
            refine go_iload_n (y := mX1_holdVote) (pc := 118) dX1_holdVote_118 rfl rfl ?_
            refine go_if_eq (y := mX1_holdVote) (pc := 119) (tgt := 126) dX1_holdVote_119 (by decide) (by omega) (fun h119 => ?_) (fun h119 => ?_)
            · skip
              exact absurd h119 (by decide)
            · skip
              refine go_iconst (y := mX1_holdVote) (pc := 122) dX1_holdVote_122 ?_
              refine go_goto (y := mX1_holdVote) (pc := 123) (tgt := 127) dX1_holdVote_123 (by decide) ?_
              refine go_callV2 (y := mX1_holdVote) (pc := 127) (y' := mX1_closeMotion) (kc2 := 0) (ks2 := 0) dX1_holdVote_127 ml_X1_254 ok_X1_closeMotion (ch_sh hc 0 (by decide)) ⟨_, _, rfl⟩ (ch_z (r := 0) hc (by decide)) ⟨rfl, rfl⟩ (by decide) (Nat.le_of_ble_eq_true rfl) rfl (c_closeMotion hc (q := q) (w := 1) (by omega) (by decide) (by omega) (by omega) ?_)
              refine go_pop (y := mX1_holdVote) (pc := 130) dX1_holdVote_130 rfl ?_
              refine go_aload_n (y := mX1_holdVote) (pc := 131) dX1_holdVote_131 rfl rfl ?_
              refine go_dup (y := mX1_holdVote) (pc := 132) dX1_holdVote_132 rfl ?_
              refine go_cget (y := mX1_holdVote) (pc := 133) (r := 0) dX1_holdVote_133 fl_X1_63 hc (by decide) rfl rfl (by decide) (fun r133 => ?_)
              refine go_iconst (y := mX1_holdVote) (pc := 136) dX1_holdVote_136 ?_
              refine go_iadd (y := mX1_holdVote) (pc := 137) dX1_holdVote_137 ?_
              refine go_cputW (y := mX1_holdVote) (pc := 138) (r := 0) dX1_holdVote_138 fp_X1_63 hc (by decide) rfl rfl (by decide)  ?_
              refine go_iload_n (y := mX1_holdVote) (pc := 141) dX1_holdVote_141 rfl rfl ?_
              refine go_zreturn (y := mX1_holdVote) (pc := 142) dX1_holdVote_142 rfl (by omega) ?_
              exact K
          · have ga1 : a = 0 := by rw [ha, bI_f g]
            subst ga1
            rw [if_neg g] at K
            refine go_aload_n (y := mX1_holdVote) (pc := 116) dX1_holdVote_116 rfl rfl ?_
            refine go_iload_n (y := mX1_holdVote) (pc := 117) dX1_holdVote_117 rfl rfl ?_
            refine go_iload_n (y := mX1_holdVote) (pc := 118) dX1_holdVote_118 rfl rfl ?_
            refine go_if_eq (y := mX1_holdVote) (pc := 119) (tgt := 126) dX1_holdVote_119 (by decide) (by omega) (fun h119 => ?_) (fun h119 => ?_)
            · skip
              refine go_iconst (y := mX1_holdVote) (pc := 126) dX1_holdVote_126 ?_
              refine go_callV2 (y := mX1_holdVote) (pc := 127) (y' := mX1_closeMotion) (kc2 := 0) (ks2 := 0) dX1_holdVote_127 ml_X1_254 ok_X1_closeMotion (ch_sh hc 0 (by decide)) ⟨_, _, rfl⟩ (ch_z (r := 0) hc (by decide)) ⟨rfl, rfl⟩ (by decide) (Nat.le_of_ble_eq_true rfl) rfl (c_closeMotion hc (q := q) (w := 2) (by omega) (by decide) (by omega) (by omega) ?_)
              refine go_pop (y := mX1_holdVote) (pc := 130) dX1_holdVote_130 rfl ?_
              refine go_aload_n (y := mX1_holdVote) (pc := 131) dX1_holdVote_131 rfl rfl ?_
              refine go_dup (y := mX1_holdVote) (pc := 132) dX1_holdVote_132 rfl ?_
              refine go_cget (y := mX1_holdVote) (pc := 133) (r := 0) dX1_holdVote_133 fl_X1_63 hc (by decide) rfl rfl (by decide) (fun r133 => ?_)
              refine go_iconst (y := mX1_holdVote) (pc := 136) dX1_holdVote_136 ?_
              refine go_iadd (y := mX1_holdVote) (pc := 137) dX1_holdVote_137 ?_
              refine go_cputW (y := mX1_holdVote) (pc := 138) (r := 0) dX1_holdVote_138 fp_X1_63 hc (by decide) rfl rfl (by decide)  ?_
              refine go_iload_n (y := mX1_holdVote) (pc := 141) dX1_holdVote_141 rfl rfl ?_
              refine go_zreturn (y := mX1_holdVote) (pc := 142) dX1_holdVote_142 rfl (by omega) ?_
              exact K
            · skip
              exact absurd rfl h119
        · skip
          skip
          have J67 : ∀ (v : Int), v = vt (hvk σ q w k) k q → (v = 0 ∨ v = 1 ∨ v = -1) → go 276 4 0 0 mX1_holdVote Q X 67 [.ref c, .int (iI (q : Nat)), .int (iI a), .int (iI w), .int (iI (k : Nat)), .int (iI v)] [] (put c (hv1 (hvk σ q w k) q w k) μ) := by
            intro v hv gv
            refine go_iload (y := mX1_holdVote) (pc := 67) dX1_holdVote_67 rfl ?_
            refine go_iload_n (y := mX1_holdVote) (pc := 69) dX1_holdVote_69 rfl rfl ?_
            refine go_icmp_ne (y := mX1_holdVote) (pc := 70) (tgt := 110) dX1_holdVote_70 (by decide) (by omega) (by omega) (fun h70 => ?_) (fun h70 => ?_)
            · skip
              refine go_iinc (y := mX1_holdVote) (pc := 110) dX1_holdVote_110 rfl (by decide) ?_
              refine go_goto (y := mX1_holdVote) (pc := 113) (tgt := 27) dX1_holdVote_113 (by decide) ?_
              have h := ih' (by omega) (k + 1) (.int (iI v)) (by omega)
              rw [hvk, hv2, if_neg (fun w9 => h70 (hv.trans w9.1))] at h
              exact h
            · skip
              refine go_aload_n (y := mX1_holdVote) (pc := 73) dX1_holdVote_73 rfl rfl ?_
              refine go_getR (y := mX1_holdVote) (pc := 74) dX1_holdVote_74 fl_X1_12 (ch_sh hc 0 (by decide)) rfl (ch_z (r := 0) hc (by decide)) ?_
              refine go_getR (y := mX1_holdVote) (pc := 77) dX1_holdVote_77 fl_X1_251 (ch_sh hc 1 (by decide)) rfl (ch_z (r := 1) hc (by decide)) ?_
              refine go_iload (y := mX1_holdVote) (pc := 80) dX1_holdVote_80 rfl ?_
              refine go_cial (y := mX1_holdVote) (pc := 82) (r := 2) (k := k) dX1_holdVote_82 hc (by decide) rfl (by decide) rfl (by omega) (by decide) (fun r82 => ?_)
              refine go_if_le (y := mX1_holdVote) (pc := 83) (tgt := 110) dX1_holdVote_83 (by decide) (by omega) (fun h83 => ?_) (fun h83 => ?_)
              · skip
                refine go_iinc (y := mX1_holdVote) (pc := 110) dX1_holdVote_110 rfl (by decide) ?_
                refine go_goto (y := mX1_holdVote) (pc := 113) (tgt := 27) dX1_holdVote_113 (by decide) ?_
                have h := ih' (by omega) (k + 1) (.int (iI v)) (by omega)
                rw [hvk, hv2, if_neg (fun w9 => by have := w9.2; omega)] at h
                exact h
              · skip
                refine go_aload_n (y := mX1_holdVote) (pc := 86) dX1_holdVote_86 rfl rfl ?_
                refine go_getR (y := mX1_holdVote) (pc := 87) dX1_holdVote_87 fl_X1_12 (ch_sh hc 0 (by decide)) rfl (ch_z (r := 0) hc (by decide)) ?_
                refine go_getR (y := mX1_holdVote) (pc := 90) dX1_holdVote_90 fl_X1_251 (ch_sh hc 1 (by decide)) rfl (ch_z (r := 1) hc (by decide)) ?_
                refine go_iload (y := mX1_holdVote) (pc := 93) dX1_holdVote_93 rfl ?_
                refine go_dup2 (y := mX1_holdVote) (pc := 95) dX1_holdVote_95 rfl rfl ?_
                refine go_cial (y := mX1_holdVote) (pc := 96) (r := 2) (k := k) dX1_holdVote_96 hc (by decide) rfl (by decide) rfl (by omega) (by decide) (fun r96 => ?_)
                refine go_iconst (y := mX1_holdVote) (pc := 97) dX1_holdVote_97 ?_
                refine go_isub (y := mX1_holdVote) (pc := 98) dX1_holdVote_98 ?_
                refine go_ciasW (y := mX1_holdVote) (pc := 99) (r := 2) (k := k) dX1_holdVote_99 hc (by decide) rfl (by decide) rfl (by omega) (by decide)  ?_
                refine go_aload_n (y := mX1_holdVote) (pc := 100) dX1_holdVote_100 rfl rfl ?_
                refine go_dup (y := mX1_holdVote) (pc := 101) dX1_holdVote_101 rfl ?_
                refine go_cget (y := mX1_holdVote) (pc := 102) (r := 0) dX1_holdVote_102 fl_X1_60 hc (by decide) rfl rfl (by decide) (fun r102 => ?_)
                refine go_top (b := hv1 (hvk σ q w k) q w k 0 7) (wr_na (by decide)) (fun t102 => ?_)
                refine go_iconst (y := mX1_holdVote) (pc := 105) dX1_holdVote_105 ?_
                refine go_iadd (y := mX1_holdVote) (pc := 106) dX1_holdVote_106 ?_
                refine go_cputW (y := mX1_holdVote) (pc := 107) (r := 0) dX1_holdVote_107 fp_X1_60 hc (by decide) rfl rfl (by decide)  ?_
                refine go_iinc (y := mX1_holdVote) (pc := 110) dX1_holdVote_110 rfl (by decide) ?_
                refine go_goto (y := mX1_holdVote) (pc := 113) (tgt := 27) dX1_holdVote_113 (by decide) ?_
                have h := ih' (by omega) (k + 1) (.int (iI v)) (by omega)
                rw [hvk, hv2, if_pos ⟨hv ▸ h70, h83⟩] at h
                exact h
          refine go_aload_n (y := mX1_holdVote) (pc := 39) dX1_holdVote_39 rfl rfl ?_
          refine go_iload (y := mX1_holdVote) (pc := 40) dX1_holdVote_40 rfl ?_
          refine go_iload_n (y := mX1_holdVote) (pc := 42) dX1_holdVote_42 rfl rfl ?_
          refine go_callV2 (y := mX1_holdVote) (pc := 43) (y' := mX1_voteOf) (kc2 := 0) (ks2 := 0) dX1_holdVote_43 ml_X1_230 ok_X1_voteOf (ch_sh hc 0 (by decide)) ⟨_, _, rfl⟩ (ch_z (r := 0) hc (by decide)) ⟨rfl, rfl⟩ (by decide) (Nat.le_of_ble_eq_true rfl) rfl (c_voteOf hc (m := k) (q := q) (by omega) (by omega) (fun v43 e43 b43 => ?_))
          refine go_istore (y := mX1_holdVote) (pc := 46) dX1_holdVote_46 (by decide) ?_
          refine go_iload (y := mX1_holdVote) (pc := 48) dX1_holdVote_48 rfl ?_
          refine go_if_eq (y := mX1_holdVote) (pc := 50) (tgt := 67) dX1_holdVote_50 (by decide) (by omega) (fun h50 => ?_) (fun h50 => ?_)
          · skip
            have h := J67 v43 e43 b43
            rw [hv1, if_pos (e43 ▸ h50)] at h
            exact h
          · skip
            refine go_aload_n (y := mX1_holdVote) (pc := 53) dX1_holdVote_53 rfl rfl ?_
            refine go_getR (y := mX1_holdVote) (pc := 54) dX1_holdVote_54 fl_X1_12 (ch_sh hc 0 (by decide)) rfl (ch_z (r := 0) hc (by decide)) ?_
            refine go_getR (y := mX1_holdVote) (pc := 57) dX1_holdVote_57 fl_X1_227 (ch_sh hc 1 (by decide)) rfl (ch_z (r := 1) hc (by decide)) ?_
            refine go_iload (y := mX1_holdVote) (pc := 60) dX1_holdVote_60 rfl ?_
            refine go_dup2 (y := mX1_holdVote) (pc := 62) dX1_holdVote_62 rfl rfl ?_
            refine go_cial (y := mX1_holdVote) (pc := 63) (r := 3) (k := k) dX1_holdVote_63 hc (by decide) rfl (by decide) rfl (by omega) (by decide) (fun r63 => ?_)
            refine go_iconst (y := mX1_holdVote) (pc := 64) dX1_holdVote_64 ?_
            refine go_isub (y := mX1_holdVote) (pc := 65) dX1_holdVote_65 ?_
            refine go_ciasW (y := mX1_holdVote) (pc := 66) (r := 3) (k := k) dX1_holdVote_66 hc (by decide) rfl (by decide) rfl (by omega) (by decide)  ?_
            have h := J67 v43 e43 b43
            rw [hv1, if_neg (fun w9 => h50 (e43.trans w9))] at h
            exact h
    refine go_istore_n (y := mX1_holdVote) (pc := 23) dX1_holdVote_23 rfl (by decide) ?_
    refine go_iconst (y := mX1_holdVote) (pc := 24) dX1_holdVote_24 ?_
    refine go_istore (y := mX1_holdVote) (pc := 25) dX1_holdVote_25 (by decide) ?_
    exact loop (su μ 0 7).toNat 0 _ (by omega)
  have J0 : ∀ a : Int, a = bI (0 < mgn (su μ) σ q) → (a = 0 ∨ a = 1) → go 276 4 0 0 mX1_holdVote Q X 13 [.ref c, .int (iI (q : Nat)), .null, .null, .null, .null] [.int (iI a)] (put c σ μ) := by
    intro a ha ga
    refine go_istore_n (y := mX1_holdVote) (pc := 13) dX1_holdVote_13 rfl (by decide) ?_
    refine go_iload_n (y := mX1_holdVote) (pc := 14) dX1_holdVote_14 rfl rfl ?_
    refine go_if_eq (y := mX1_holdVote) (pc := 15) (tgt := 22) dX1_holdVote_15 (by decide) (by omega) (fun h15 => ?_) (fun h15 => ?_)
    · skip
      refine go_iconst (y := mX1_holdVote) (pc := 22) dX1_holdVote_22 ?_
      exact J13 _ _ ha (by rw [if_neg (bI_0 ha h15)]) ga (by omega)
    · skip
      refine go_iconst (y := mX1_holdVote) (pc := 18) dX1_holdVote_18 ?_
      refine go_goto (y := mX1_holdVote) (pc := 19) (tgt := 23) dX1_holdVote_19 (by decide) ?_
      exact J13 _ _ ha (by rw [if_pos (bI_1 ha h15)]) ga (by omega)
  refine go_aload_n (y := mX1_holdVote) (pc := 0) dX1_holdVote_0 rfl rfl ?_
  refine go_iload_n (y := mX1_holdVote) (pc := 1) dX1_holdVote_1 rfl rfl ?_
  refine go_callV1 (y := mX1_holdVote) (pc := 2) (y' := mX1_marginOf) (kc2 := 0) (ks2 := 0) dX1_holdVote_2 ml_X1_236 ok_X1_marginOf (ch_sh hc 0 (by decide)) ⟨_, _, rfl⟩ (ch_z (r := 0) hc (by decide)) rfl (by decide) (Nat.le_of_ble_eq_true rfl) rfl (c_marginOf hc (q := q) (by omega) hS (fun v2 e2 b2 => ?_))
  refine go_if_le (y := mX1_holdVote) (pc := 5) (tgt := 12) dX1_holdVote_5 (by decide) (by omega) (fun h5 => ?_) (fun h5 => ?_)
  · skip
    refine go_iconst (y := mX1_holdVote) (pc := 12) dX1_holdVote_12 ?_
    exact J0 _ (by rw [bI_f (by omega)]) (by omega)
  · skip
    refine go_iconst (y := mX1_holdVote) (pc := 8) dX1_holdVote_8 ?_
    refine go_goto (y := mX1_holdVote) (pc := 9) (tgt := 13) dX1_holdVote_9 (by decide) ?_
    exact J0 _ (by rw [bI_t (by omega)]) (by omega)
