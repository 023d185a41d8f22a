/-! OWN and the chamber: ω's numbers and rows against the setup S and the chamber's rows s -/
/-- a request as one number -/
def rqv (s : Mem) (r : Nat) : Int := 1 + s 12 r + 16 * s 13 r + (if s 14 r = 1 then 256 else 0)
def own (S s ω : Mem) : Prop :=
  (ω 0 0 = S 0 0 ∧ ω 0 1 = S 0 1 ∧ ω 0 2 = S 0 2 ∧ ω 0 3 = S 0 3 ∧ ω 0 4 = S 0 4 ∧ ω 0 5 = S 0 5 ∧ ω 0 6 = S 0 6 ∧ ω 0 7 = s 0 5 ∧ ω 0 8 = S 0 7 ∧ ω 0 9 = s 5 0 ∧ ω 0 10 = s 0 6 ∧ ω 0 11 = s 0 7 ∧ ω 0 12 = s 0 8 ∧ ω 0 13 = s 0 9) ∧
  (∀ m : Nat, (m : Int) < S 0 7 → ω 1 m = S 2 m ∧ ω 2 m = S 3 m ∧ ω 3 m = s 2 m ∧ ω 4 m = s 3 m ∧ ω 5 m = s 4 m) ∧
  (∀ q : Nat, (q : Int) < s 5 0 → ω 6 q = s 6 q ∧ ω 7 q = s 8 q ∧ ω 8 q = s 7 q ∧ ω 9 q = s 9 q ∧ ∀ m : Nat, (m : Int) < S 0 7 → ω 10 (16 * m + q) = ln s m q) ∧
  (∀ q : Nat, s 5 0 ≤ q → q < 16 → ω 7 q = 0 ∧ ω 8 q = 0 ∧ ω 9 q = 0) ∧
  (∀ h : Nat, h < 4 → ω 11 h = s 16 h ∧ (s 16 h ≠ -1 → ω 12 h = s 17 h ∧ ω 13 h = s 19 h ∧ ω 15 h = (if s 18 h = 1 then 1 else 0) ∧ ω 16 h = s 20 h)) ∧
  (∀ r : Nat, r < 13 → ω 14 r = if (r : Int) < s 11 0 then rqv s r else 0)
theorem rqv_b {S s : Mem} {r : Nat} (hC : wfC S s) (hS : wfS S) (h : (r : Int) < s 11 0) : ∃ b : Int, (b = 0 ∨ b = 256) ∧ (b = 256 ↔ s 14 r = 1) ∧ rqv s r = 1 + s 12 r + 16 * s 13 r + b ∧ 0 ≤ s 12 r ∧ s 12 r < 12 ∧ 0 ≤ s 13 r ∧ s 13 r < 16 ∧ s 12 r < S 0 7 ∧ s 13 r < s 5 0 := by
  have d := hC.2.2.2.1 r h
  have h12 : S 0 7 ≤ 12 := hS.2.2.2.2.2.2.2.2.2.2.2.2.2.2.2.1
  have h16 := hC.1.2.1
  refine ⟨if s 14 r = 1 then 256 else 0, by split <;> omega, by split <;> omega, rfl, ?_⟩
  omega
theorem own_F {S s ω : Mem} (hS : wfS S) (hC : wfC S s) (hR : own S s ω) {r : Nat} (hr : (r : Int) < s 11 0) : ω 14 r = rqv s r := by
  have h12 : S 0 7 ≤ 12 := hS.2.2.2.2.2.2.2.2.2.2.2.2.2.2.2.1
  have h11b := hC.1.2.2.2.1
  rw [hR.2.2.2.2.2 r (by omega), if_pos hr]
theorem td_16 {a : Int} (h : 0 ≤ a) : a.tdiv 16 = a / 16 := Int.tdiv_eq_ediv_of_nonneg h
set_option maxRecDepth 8000 in
set_option maxHeartbeats 4000000 in
theorem o_requests {z w : Nat} (hw : is_ow w) (hz : w + 17 ≤ z) {S s ω μ : Mem} (hS : wfS S) (hC : wfC S s) (hR : own S s ω) {Q : Option Value → Mem → Prop} {X : String → Mem → Prop} (K : Q (some (.int (iI (s 11 0)))) (ow w ω μ)) : mt z 0 0 0 mX11_requests [.ref w] Q X (ow w ω μ) := by
  show go z 0 0 0 mX11_requests Q X 0 [.ref w, .null] [] _
  have h12 : S 0 7 ≤ 12 := hS.2.2.2.2.2.2.2.2.2.2.2.2.2.2.2.1
  have h11 := hC.1.2.2.1
  have h11b := hC.1.2.2.2.1
  have loop : ∀ (n k : Nat), (k : Int) + n = s 11 0 → go z 0 0 0 mX11_requests Q X 2 [.ref w, .int (iI (k : Nat))] [] (ow w ω μ) := by
    intro n
    induction n using Nat.strongRecOn with
    | _ n ih =>
      intro k hk
      have hF := hR.2.2.2.2.2 k (by omega)
      refine go_aload_n (y := mX11_requests) (pc := 2) dX11_requests_2 rfl rfl ?_
      refine go_getR (y := mX11_requests) (pc := 3) dX11_requests_3 fl_X11_49 (ow_sh hw 0 (by decide)) rfl (by omega) ?_
      refine go_iload_n (y := mX11_requests) (pc := 6) dX11_requests_6 rfl rfl ?_
      refine go_wial (y := mX11_requests) (pc := 7) (r := 14) (k := k) dX11_requests_7 hw (by decide) rfl hz rfl (by omega) (by decide) (fun r7 => ?_)
      refine go_if_le (y := mX11_requests) (pc := 8) (tgt := 17) dX11_requests_8 (by decide) (by omega) (fun h8 => ?_) (fun h8 => ?_)
      · skip
        refine go_iload_n (y := mX11_requests) (pc := 17) dX11_requests_17 rfl rfl ?_
        refine go_ireturn (y := mX11_requests) (pc := 18) dX11_requests_18 rfl ?_
        have e : (k : Int) = s 11 0 := by
          by_cases g : (k : Int) < s 11 0
          · obtain ⟨b, b1, b2, b3, b4, b5, b6, b7, -⟩ := rqv_b hC hS g
            rw [if_pos g] at hF
            omega
          · omega
        rw [e]
        exact K
      · skip
        refine go_iinc (y := mX11_requests) (pc := 11) dX11_requests_11 rfl (by decide) ?_
        refine go_goto (y := mX11_requests) (pc := 14) (tgt := 2) dX11_requests_14 (by decide) ?_
        have g : (k : Int) < s 11 0 := by
          by_cases g : (k : Int) < s 11 0
          · exact g
          · rw [if_neg g] at hF
            omega
        exact ih (n - 1) (by omega) (k + 1) (by omega)
  refine go_iconst (y := mX11_requests) (pc := 0) dX11_requests_0 ?_
  refine go_istore_n (y := mX11_requests) (pc := 1) dX11_requests_1 rfl (by decide) ?_
  exact loop (s 11 0).toNat 0 (by omega)
set_option maxRecDepth 8000 in
set_option maxHeartbeats 4000000 in
theorem o_who {z w : Nat} (hw : is_ow w) (hz : w + 17 ≤ z) {S s ω μ : Mem} (hS : wfS S) (hC : wfC S s) {r : Nat} (hr : (r : Int) < s 11 0) (hF : ω 14 r = rqv s r) {Q : Option Value → Mem → Prop} {X : String → Mem → Prop} (K : Q (some (.int (iI (s 12 r)))) (ow w ω μ)) : mt z 0 0 0 mX11_who [.ref w, .int (iI (r : Nat))] Q X (ow w ω μ) := by
  show go z 0 0 0 mX11_who Q X 0 [.ref w, .int (iI (r : Nat))] [] _
  have h12 : S 0 7 ≤ 12 := hS.2.2.2.2.2.2.2.2.2.2.2.2.2.2.2.1
  have h11b := hC.1.2.2.2.1
  obtain ⟨b, b1, b2, b3, b4, b5, b6, b7, -⟩ := rqv_b hC hS hr
  refine go_aload_n (y := mX11_who) (pc := 0) dX11_who_0 rfl rfl ?_
  refine go_getR (y := mX11_who) (pc := 1) dX11_who_1 fl_X11_49 (ow_sh hw 0 (by decide)) rfl (by omega) ?_
  refine go_iload_n (y := mX11_who) (pc := 4) dX11_who_4 rfl rfl ?_
  refine go_wial (y := mX11_who) (pc := 5) (r := 14) (k := r) dX11_who_5 hw (by decide) rfl hz rfl (by omega) (by decide) (fun r5 => ?_)
  refine go_top (b := rqv s r) (hF) (fun t5 => ?_)
  refine go_iconst (y := mX11_who) (pc := 6) dX11_who_6 ?_
  refine go_isub (y := mX11_who) (pc := 7) dX11_who_7 ?_
  refine go_bipush (y := mX11_who) (pc := 8) dX11_who_8 (by decide) ?_
  refine go_irem (y := mX11_who) (pc := 10) dX11_who_10 (by omega) (by omega) (by omega) ?_
  refine go_top (b := s 12 r) ((by rw [td_16 (by omega)]; omega)) (fun t10 => ?_)
  refine go_ireturn (y := mX11_who) (pc := 11) dX11_who_11 rfl ?_
  exact K
set_option maxRecDepth 8000 in
set_option maxHeartbeats 4000000 in
theorem o_what {z w : Nat} (hw : is_ow w) (hz : w + 17 ≤ z) {S s ω μ : Mem} (hS : wfS S) (hC : wfC S s) {r : Nat} (hr : (r : Int) < s 11 0) (hF : ω 14 r = rqv s r) {Q : Option Value → Mem → Prop} {X : String → Mem → Prop} (K : Q (some (.int (iI (s 13 r)))) (ow w ω μ)) : mt z 0 0 0 mX11_what [.ref w, .int (iI (r : Nat))] Q X (ow w ω μ) := by
  show go z 0 0 0 mX11_what Q X 0 [.ref w, .int (iI (r : Nat))] [] _
  have h12 : S 0 7 ≤ 12 := hS.2.2.2.2.2.2.2.2.2.2.2.2.2.2.2.1
  have h11b := hC.1.2.2.2.1
  obtain ⟨b, b1, b2, b3, b4, b5, b6, b7, -⟩ := rqv_b hC hS hr
  refine go_aload_n (y := mX11_what) (pc := 0) dX11_what_0 rfl rfl ?_
  refine go_getR (y := mX11_what) (pc := 1) dX11_what_1 fl_X11_49 (ow_sh hw 0 (by decide)) rfl (by omega) ?_
  refine go_iload_n (y := mX11_what) (pc := 4) dX11_what_4 rfl rfl ?_
  refine go_wial (y := mX11_what) (pc := 5) (r := 14) (k := r) dX11_what_5 hw (by decide) rfl hz rfl (by omega) (by decide) (fun r5 => ?_)
  refine go_top (b := rqv s r) (hF) (fun t5 => ?_)
  refine go_iconst (y := mX11_what) (pc := 6) dX11_what_6 ?_
  refine go_isub (y := mX11_what) (pc := 7) dX11_what_7 ?_
  refine go_bipush (y := mX11_what) (pc := 8) dX11_what_8 (by decide) ?_
  refine go_idiv (y := mX11_what) (pc := 10) dX11_what_10 (by omega) (by omega) (by omega) ?_
  refine go_top (b := (rqv s r - 1) / 16) (td_16 (by omega)) (fun t10 => ?_)
  refine go_bipush (y := mX11_what) (pc := 11) dX11_what_11 (by decide) ?_
  refine go_irem (y := mX11_what) (pc := 13) dX11_what_13 (by omega) (by omega) (by omega) ?_
  refine go_top (b := s 13 r) ((by rw [td_16 (by omega)]; omega)) (fun t13 => ?_)
  refine go_ireturn (y := mX11_what) (pc := 14) dX11_what_14 rfl ?_
  exact K
set_option maxRecDepth 8000 in
set_option maxHeartbeats 4000000 in
theorem o_isForAt {z w : Nat} (hw : is_ow w) (hz : w + 17 ≤ z) {S s ω μ : Mem} (hS : wfS S) (hC : wfC S s) {r : Nat} (hr : (r : Int) < s 11 0) (hF : ω 14 r = rqv s r) {Q : Option Value → Mem → Prop} {X : String → Mem → Prop} (K : ∀ v, v = bI (s 14 r = 1) → v = 0 ∨ v = 1 → Q (some (.int (iI v))) (ow w ω μ)) : mt z 0 0 0 mX11_isForAt [.ref w, .int (iI (r : Nat))] Q X (ow w ω μ) := by
  show go z 0 0 0 mX11_isForAt Q X 0 [.ref w, .int (iI (r : Nat))] [] _
  have h12 : S 0 7 ≤ 12 := hS.2.2.2.2.2.2.2.2.2.2.2.2.2.2.2.1
  have h11b := hC.1.2.2.2.1
  obtain ⟨b, b1, b2, b3, b4, b5, b6, b7, -⟩ := rqv_b hC hS hr
  refine go_aload_n (y := mX11_isForAt) (pc := 0) dX11_isForAt_0 rfl rfl ?_
  refine go_getR (y := mX11_isForAt) (pc := 1) dX11_isForAt_1 fl_X11_49 (ow_sh hw 0 (by decide)) rfl (by omega) ?_
  refine go_iload_n (y := mX11_isForAt) (pc := 4) dX11_isForAt_4 rfl rfl ?_
  refine go_wial (y := mX11_isForAt) (pc := 5) (r := 14) (k := r) dX11_isForAt_5 hw (by decide) rfl hz rfl (by omega) (by decide) (fun r5 => ?_)
  refine go_sipush (y := mX11_isForAt) (pc := 6) dX11_isForAt_6 (by decide) ?_
  refine go_icmp_le (y := mX11_isForAt) (pc := 9) (tgt := 16) dX11_isForAt_9 (by decide) (by omega) (by omega) (fun h9 => ?_) (fun h9 => ?_)
  · skip
    refine go_iconst (y := mX11_isForAt) (pc := 16) dX11_isForAt_16 ?_
    refine go_zreturn (y := mX11_isForAt) (pc := 17) dX11_isForAt_17 rfl (by omega) ?_
    exact K _ (bI_f (by omega)).symm (by omega)
  · skip
    refine go_iconst (y := mX11_isForAt) (pc := 12) dX11_isForAt_12 ?_
    refine go_goto (y := mX11_isForAt) (pc := 13) (tgt := 17) dX11_isForAt_13 (by decide) ?_
    refine go_zreturn (y := mX11_isForAt) (pc := 17) dX11_isForAt_17 rfl (by omega) ?_
    exact K _ (bI_t (by omega)).symm (by omega)
set_option maxRecDepth 8000 in
set_option maxHeartbeats 4000000 in
theorem o_listed {z w : Nat} (hw : is_ow w) (hz : w + 17 ≤ z) {S s ω μ : Mem} (hS : wfS S) (hC : wfC S s) (hR : own S s ω) {m : Int} (hm : rng m) {Q : Option Value → Mem → Prop} {X : String → Mem → Prop} (K : ∀ v, v = plc s m → -1 ≤ v ∧ v < 12 → Q (some (.int (iI v))) (ow w ω μ)) : mt z 1 0 0 mX11_listed [.ref w, .int (iI m)] Q X (ow w ω μ) := by
  show go z 1 0 0 mX11_listed Q X 0 [.ref w, .int (iI m), .null] [] _
  have h12 : S 0 7 ≤ 12 := hS.2.2.2.2.2.2.2.2.2.2.2.2.2.2.2.1
  have h11 := hC.1.2.2.1
  have h11b := hC.1.2.2.2.1
  have loop : ∀ (n k : Nat), (k : Int) + n = s 11 0 → (∀ i, i < k → ¬ s 12 i = m) → go z 1 0 0 mX11_listed Q X 2 [.ref w, .int (iI m), .int (iI (k : Nat))] [] (ow w ω μ) := by
    intro n
    induction n using Nat.strongRecOn with
    | _ n ih =>
      intro k hk hn
      have hF := hR.2.2.2.2.2 k (by omega)
      refine go_aload_n (y := mX11_listed) (pc := 2) dX11_listed_2 rfl rfl ?_
      refine go_getR (y := mX11_listed) (pc := 3) dX11_listed_3 fl_X11_49 (ow_sh hw 0 (by decide)) rfl (by omega) ?_
      refine go_iload_n (y := mX11_listed) (pc := 6) dX11_listed_6 rfl rfl ?_
      refine go_wial (y := mX11_listed) (pc := 7) (r := 14) (k := k) dX11_listed_7 hw (by decide) rfl hz rfl (by omega) (by decide) (fun r7 => ?_)
      refine go_if_le (y := mX11_listed) (pc := 8) (tgt := 28) dX11_listed_8 (by decide) (by omega) (fun h8 => ?_) (fun h8 => ?_)
      · skip
        refine go_iconst (y := mX11_listed) (pc := 28) dX11_listed_28 ?_
        refine go_ireturn (y := mX11_listed) (pc := 29) dX11_listed_29 rfl ?_
        have e : (s 11 0).toNat = k := by
          by_cases g : (k : Int) < s 11 0
          · obtain ⟨b, b1, b2, b3, b4, b5, b6, b7, -⟩ := rqv_b hC hS g
            rw [if_pos g] at hF
            omega
          · omega
        exact K _ (by unfold plc; rw [e]; exact (fnd_0 hn).symm) (by omega)
      · skip
        have g : (k : Int) < s 11 0 := by
          by_cases g : (k : Int) < s 11 0
          · exact g
          · rw [if_neg g] at hF
            omega
        have hd := hC.2.2.2.1 k g
        refine go_aload_n (y := mX11_listed) (pc := 11) dX11_listed_11 rfl rfl ?_
        refine go_iload_n (y := mX11_listed) (pc := 12) dX11_listed_12 rfl rfl ?_
        refine go_callV1 (y := mX11_listed) (pc := 13) (y' := mX11_who) (kc2 := 0) (ks2 := 0) dX11_listed_13 ml_X11_112 ok_X11_who (ow_sh hw 0 (by decide)) ⟨_, _, rfl⟩ (by omega) rfl ⟨by decide, Nat.le_refl _, by decide, by decide, by decide⟩ (Nat.le_of_ble_eq_true rfl) rfl (o_who hw hz hS hC (r := k) (by omega) (own_F hS hC hR (by omega)) ?_)
        refine go_iload_n (y := mX11_listed) (pc := 16) dX11_listed_16 rfl rfl ?_
        refine go_icmp_ne (y := mX11_listed) (pc := 17) (tgt := 22) dX11_listed_17 (by decide) (by omega) (by omega) (fun h17 => ?_) (fun h17 => ?_)
        · skip
          refine go_iinc (y := mX11_listed) (pc := 22) dX11_listed_22 rfl (by decide) ?_
          refine go_goto (y := mX11_listed) (pc := 25) (tgt := 2) dX11_listed_25 (by decide) ?_
          exact ih (n - 1) (by omega) (k + 1) (by omega) (lt_s hn h17)
        · skip
          refine go_iload_n (y := mX11_listed) (pc := 20) dX11_listed_20 rfl rfl ?_
          refine go_ireturn (y := mX11_listed) (pc := 21) dX11_listed_21 rfl ?_
          exact K _ (by unfold plc; exact (fnd_1 (by omega) h17 hn).symm) (by omega)
  refine go_iconst (y := mX11_listed) (pc := 0) dX11_listed_0 ?_
  refine go_istore_n (y := mX11_listed) (pc := 1) dX11_listed_1 rfl (by decide) ?_
  exact loop (s 11 0).toNat 0 (by omega) lt_0
set_option maxRecDepth 8000 in
set_option maxHeartbeats 4000000 in
theorem o_chair {z w : Nat} (hw : is_ow w) (hz : w + 17 ≤ z) {S s ω μ : Mem} (hS : wfS S) (hC : wfC S s) (hR : own S s ω) {m : Int} (hm : rng m) (hm0 : 0 ≤ m) {Q : Option Value → Mem → Prop} {X : String → Mem → Prop} (K : ∀ v, v = tkn s m → -1 ≤ v ∧ v < 4 → Q (some (.int (iI v))) (ow w ω μ)) : mt z 0 0 0 mX11_chair [.ref w, .int (iI m)] Q X (ow w ω μ) := by
  show go z 0 0 0 mX11_chair Q X 0 [.ref w, .int (iI m), .null] [] _
  have hc1 := hS.1
  have hc4 := hS.2.1
  have e0 := hR.1.1
  have loop : ∀ (n k : Nat), (k : Int) + n = S 0 0 → (∀ i, i < k → ¬ s 16 i = m) → go z 0 0 0 mX11_chair Q X 2 [.ref w, .int (iI m), .int (iI (k : Nat))] [] (ow w ω μ) := by
    intro n
    induction n using Nat.strongRecOn with
    | _ n ih =>
      intro k hk hn
      refine go_iload_n (y := mX11_chair) (pc := 2) dX11_chair_2 rfl rfl ?_
      refine go_aload_n (y := mX11_chair) (pc := 3) dX11_chair_3 rfl rfl ?_
      refine go_wget (y := mX11_chair) (pc := 4) (r := 0) dX11_chair_4 fl_X11_60 hw (by decide) rfl rfl hz (fun r4 => ?_)
      refine go_top (b := S 0 0) (e0) (fun t4 => ?_)
      refine go_icmp_ge (y := mX11_chair) (pc := 7) (tgt := 28) dX11_chair_7 (by decide) (by omega) (by omega) (fun h7 => ?_) (fun h7 => ?_)
      · skip
        refine go_iconst (y := mX11_chair) (pc := 28) dX11_chair_28 ?_
        refine go_ireturn (y := mX11_chair) (pc := 29) dX11_chair_29 rfl ?_
        refine K _ (fnd_0 (fun i hi => ?_)).symm (by omega)
        by_cases g : i < k
        · exact hn i g
        · have := hC.2.2.2.2.2 i hi
          omega
      · skip
        have hE := hR.2.2.2.2.1 k (by omega)
        refine go_aload_n (y := mX11_chair) (pc := 10) dX11_chair_10 rfl rfl ?_
        refine go_getR (y := mX11_chair) (pc := 11) dX11_chair_11 fl_X11_40 (ow_sh hw 0 (by decide)) rfl (by omega) ?_
        refine go_iload_n (y := mX11_chair) (pc := 14) dX11_chair_14 rfl rfl ?_
        refine go_wial (y := mX11_chair) (pc := 15) (r := 11) (k := k) dX11_chair_15 hw (by decide) rfl hz rfl (by omega) (by decide) (fun r15 => ?_)
        refine go_iload_n (y := mX11_chair) (pc := 16) dX11_chair_16 rfl rfl ?_
        refine go_icmp_ne (y := mX11_chair) (pc := 17) (tgt := 22) dX11_chair_17 (by decide) (by omega) (by omega) (fun h17 => ?_) (fun h17 => ?_)
        · skip
          refine go_iinc (y := mX11_chair) (pc := 22) dX11_chair_22 rfl (by decide) ?_
          refine go_goto (y := mX11_chair) (pc := 25) (tgt := 2) dX11_chair_25 (by decide) ?_
          exact ih (n - 1) (by omega) (k + 1) (by omega) (lt_s hn (by omega))
        · skip
          refine go_iload_n (y := mX11_chair) (pc := 20) dX11_chair_20 rfl rfl ?_
          refine go_ireturn (y := mX11_chair) (pc := 21) dX11_chair_21 rfl ?_
          exact K _ (fnd_1 (by omega) (by omega) hn).symm (by omega)
  refine go_iconst (y := mX11_chair) (pc := 0) dX11_chair_0 ?_
  refine go_istore_n (y := mX11_chair) (pc := 1) dX11_chair_1 rfl (by decide) ?_
  exact loop (S 0 0).toNat 0 (by omega) lt_0
/-- rebuttals on the first k chairs -/
theorem mrs_k {S s : Mem} (hC : wfC S s) (hS : wfS S) {k : Nat} (hk : (k : Int) = S 0 0) : smf (fun h => s 20 h) k = mrs s := by
  have h4 := hS.2.1
  have key : ∀ n : Nat, k + n ≤ 4 → smf (fun h => s 20 h) (k + n) = smf (fun h => s 20 h) k := by
    intro n
    induction n with
    | zero => intro _; rfl
    | succ n ih =>
      intro h
      have hf := hC.2.2.2.2.2 (k + n) (by omega)
      rw [show k + (n + 1) = k + n + 1 by omega, smf, ih (by omega)]
      omega
  have h := key (4 - k) (by omega)
  rw [show k + (4 - k) = 4 by omega] at h
  exact h.symm
set_option maxRecDepth 8000 in
set_option maxHeartbeats 4000000 in
theorem o_free {z w : Nat} (hw : is_ow w) (hz : w + 17 ≤ z) {S s ω μ : Mem} (hS : wfS S) (hC : wfC S s) (hR : own S s ω) {Q : Option Value → Mem → Prop} {X : String → Mem → Prop} (K : Q (some (.int (iI (frm S s)))) (ow w ω μ)) : mt z 0 0 0 mX11_free [.ref w] Q X (ow w ω μ) := by
  show go z 0 0 0 mX11_free Q X 0 [.ref w, .null, .null] [] _
  have hc1 := hS.1
  have hc4 := hS.2.1
  have e0 := hR.1.1
  have e1 := hR.1.2.1
  have loop : ∀ (n k : Nat), (k : Int) + n = S 0 0 → go z 0 0 0 mX11_free Q X 7 [.ref w, .int (iI (S 0 1 - smf (fun h => s 20 h) k)), .int (iI (k : Nat))] [] (ow w ω μ) := by
    intro n
    induction n using Nat.strongRecOn with
    | _ n ih =>
      intro k hk
      have ih' := ih (n - 1)
      refine go_iload_n (y := mX11_free) (pc := 7) dX11_free_7 rfl rfl ?_
      refine go_aload_n (y := mX11_free) (pc := 8) dX11_free_8 rfl rfl ?_
      refine go_wget (y := mX11_free) (pc := 9) (r := 0) dX11_free_9 fl_X11_60 hw (by decide) rfl rfl hz (fun r9 => ?_)
      refine go_top (b := S 0 0) (e0) (fun t9 => ?_)
      refine go_icmp_ge (y := mX11_free) (pc := 12) (tgt := 47) dX11_free_12 (by decide) (by omega) (by omega) (fun h12 => ?_) (fun h12 => ?_)
      · skip
        refine go_iload_n (y := mX11_free) (pc := 47) dX11_free_47 rfl rfl ?_
        refine go_ireturn (y := mX11_free) (pc := 48) dX11_free_48 rfl ?_
        have h := mrs_k hC hS (k := k) (by omega)
        unfold frm at K
        rw [h]
        exact K
      · skip
        have hE := hR.2.2.2.2.1 k (by omega)
        have hf := hC.2.2.2.2.2 k (by omega)
        have J39 : ∀ v : Int, v = s 20 k → go z 0 0 0 mX11_free Q X 39 [.ref w, .int (iI (S 0 1 - smf (fun h => s 20 h) k)), .int (iI (k : Nat))] [.int (iI v), .int (iI (S 0 1 - smf (fun h => s 20 h) k))] (ow w ω μ) := by
          intro v hv
          refine go_isub (y := mX11_free) (pc := 39) dX11_free_39 ?_
          refine go_istore_n (y := mX11_free) (pc := 40) dX11_free_40 rfl (by decide) ?_
          refine go_iinc (y := mX11_free) (pc := 41) dX11_free_41 rfl (by decide) ?_
          refine go_goto (y := mX11_free) (pc := 44) (tgt := 7) dX11_free_44 (by decide) ?_
          have h := ih' (by omega) (k + 1) (by omega)
          rw [smf, ← hv] at h
          rw [show S 0 1 - smf (fun h => s 20 h) k - v = S 0 1 - (smf (fun h => s 20 h) k + v) by omega]
          exact h
        refine go_iload_n (y := mX11_free) (pc := 15) dX11_free_15 rfl rfl ?_
        refine go_aload_n (y := mX11_free) (pc := 16) dX11_free_16 rfl rfl ?_
        refine go_getR (y := mX11_free) (pc := 17) dX11_free_17 fl_X11_40 (ow_sh hw 0 (by decide)) rfl (by omega) ?_
        refine go_iload_n (y := mX11_free) (pc := 20) dX11_free_20 rfl rfl ?_
        refine go_wial (y := mX11_free) (pc := 21) (r := 11) (k := k) dX11_free_21 hw (by decide) rfl hz rfl (by omega) (by decide) (fun r21 => ?_)
        refine go_if_lt (y := mX11_free) (pc := 22) (tgt := 38) dX11_free_22 (by decide) (by omega) (fun h22 => ?_) (fun h22 => ?_)
        · skip
          refine go_iconst (y := mX11_free) (pc := 38) dX11_free_38 ?_
          exact J39 0 (by omega)
        · skip
          have hE2 := hE.2 (by omega)
          refine go_aload_n (y := mX11_free) (pc := 25) dX11_free_25 rfl rfl ?_
          refine go_getR (y := mX11_free) (pc := 26) dX11_free_26 fl_X11_56 (ow_sh hw 0 (by decide)) rfl (by omega) ?_
          refine go_iload_n (y := mX11_free) (pc := 29) dX11_free_29 rfl rfl ?_
          refine go_wzal (y := mX11_free) (pc := 30) (r := 16) (k := k) dX11_free_30 hw (by decide) rfl hz rfl (by omega) (by decide) (fun r30 => ?_)
          refine go_if_eq (y := mX11_free) (pc := 31) (tgt := 38) dX11_free_31 (by decide) (by omega) (fun h31 => ?_) (fun h31 => ?_)
          · skip
            refine go_iconst (y := mX11_free) (pc := 38) dX11_free_38 ?_
            exact J39 0 (by omega)
          · skip
            refine go_iconst (y := mX11_free) (pc := 34) dX11_free_34 ?_
            refine go_goto (y := mX11_free) (pc := 35) (tgt := 39) dX11_free_35 (by decide) ?_
            exact J39 1 (by omega)
  refine go_aload_n (y := mX11_free) (pc := 0) dX11_free_0 rfl rfl ?_
  refine go_wget (y := mX11_free) (pc := 1) (r := 0) dX11_free_1 fl_X11_64 hw (by decide) rfl rfl hz (fun r1 => ?_)
  refine go_top (b := S 0 1) (e1) (fun t1 => ?_)
  refine go_istore_n (y := mX11_free) (pc := 4) dX11_free_4 rfl (by decide) ?_
  refine go_iconst (y := mX11_free) (pc := 5) dX11_free_5 ?_
  refine go_istore_n (y := mX11_free) (pc := 6) dX11_free_6 rfl (by decide) ?_
  have h := loop (S 0 0).toNat 0 (by omega)
  rw [smf, show S 0 1 - 0 = S 0 1 by omega] at h
  exact h
set_option maxRecDepth 8000 in
set_option maxHeartbeats 4000000 in
theorem o_isSpoken {z w : Nat} (hw : is_ow w) (hz : w + 17 ≤ z) {S s ω μ : Mem} (hS : wfS S) (hC : wfC S s) (hR : own S s ω) {q : Int} (hq : rng q) {Q : Option Value → Mem → Prop} {X : String → Mem → Prop} (K : ∀ v, v = bI (spa s q) → v = 0 ∨ v = 1 → Q (some (.int (iI v))) (ow w ω μ)) : mt z 0 0 0 mX11_isSpoken [.ref w, .int (iI q)] Q X (ow w ω μ) := by
  show go z 0 0 0 mX11_isSpoken Q X 0 [.ref w, .int (iI q), .null, .null] [] _
  have hc1 := hS.1
  have hc4 := hS.2.1
  have e0 := hR.1.1
  have loop : ∀ (n k : Nat) (b : Int), (k : Int) + n = S 0 0 → (b = 0 ∨ b = 1) → (b = 0 ↔ ∀ i, i < k → ¬ (s 16 i ≠ -1 ∧ s 17 i = q)) → go z 0 0 0 mX11_isSpoken Q X 4 [.ref w, .int (iI q), .int (iI b), .int (iI (k : Nat))] [] (ow w ω μ) := by
    intro n
    induction n using Nat.strongRecOn with
    | _ n ih =>
      intro k b hk hb hn
      have ih' := ih (n - 1)
      refine go_iload_n (y := mX11_isSpoken) (pc := 4) dX11_isSpoken_4 rfl rfl ?_
      refine go_aload_n (y := mX11_isSpoken) (pc := 5) dX11_isSpoken_5 rfl rfl ?_
      refine go_wget (y := mX11_isSpoken) (pc := 6) (r := 0) dX11_isSpoken_6 fl_X11_60 hw (by decide) rfl rfl hz (fun r6 => ?_)
      refine go_top (b := S 0 0) (e0) (fun t6 => ?_)
      refine go_icmp_ge (y := mX11_isSpoken) (pc := 9) (tgt := 47) dX11_isSpoken_9 (by decide) (by omega) (by omega) (fun h9 => ?_) (fun h9 => ?_)
      · skip
        refine go_iload_n (y := mX11_isSpoken) (pc := 47) dX11_isSpoken_47 rfl rfl ?_
        refine go_zreturn (y := mX11_isSpoken) (pc := 48) dX11_isSpoken_48 rfl (by omega) ?_
        refine K b ?_ hb
        have key : spa s q ↔ ¬ b = 0 := by
          rw [hn]
          constructor
          · intro h1 h2
            exact h1 (fnd_0 (fun i hi => by
              by_cases g : i < k
              · exact h2 i g
              · intro w9
                have := hC.2.2.2.2.2 i hi
                omega))
          · intro h1 h2
            exact h1 (fun i hi => fnd_no h2 i (by omega))
        by_cases g : b = 0
        · rw [bI_f (fun w9 => key.mp w9 g)]; exact g
        · rw [bI_t (key.mpr g)]; omega
      · skip
        have hE := hR.2.2.2.2.1 k (by omega)
        have hf := hC.2.2.2.2.2 k (by omega)
        have J40 : ∀ v : Int, (v = 0 ∨ v = 1) → (v = 0 ↔ ∀ i, i < k + 1 → ¬ (s 16 i ≠ -1 ∧ s 17 i = q)) → go z 0 0 0 mX11_isSpoken Q X 40 [.ref w, .int (iI q), .int (iI b), .int (iI (k : Nat))] [.int (iI v)] (ow w ω μ) := by
          intro v hv hv2
          refine go_istore_n (y := mX11_isSpoken) (pc := 40) dX11_isSpoken_40 rfl (by decide) ?_
          refine go_iinc (y := mX11_isSpoken) (pc := 41) dX11_isSpoken_41 rfl (by decide) ?_
          refine go_goto (y := mX11_isSpoken) (pc := 44) (tgt := 4) dX11_isSpoken_44 (by decide) ?_
          exact ih' (by omega) (k + 1) v (by omega) hv hv2
        have J35 : (¬ ∀ i, i < k + 1 → ¬ (s 16 i ≠ -1 ∧ s 17 i = q)) → go z 0 0 0 mX11_isSpoken Q X 35 [.ref w, .int (iI q), .int (iI b), .int (iI (k : Nat))] [] (ow w ω μ) := by
          intro h9
          refine go_iconst (y := mX11_isSpoken) (pc := 35) dX11_isSpoken_35 ?_
          refine go_goto (y := mX11_isSpoken) (pc := 36) (tgt := 40) dX11_isSpoken_36 (by decide) ?_
          exact J40 1 (by omega) ⟨fun w9 => absurd w9 (by decide), fun w9 => absurd w9 h9⟩
        have J39 : (∀ i, i < k + 1 → ¬ (s 16 i ≠ -1 ∧ s 17 i = q)) → go z 0 0 0 mX11_isSpoken Q X 39 [.ref w, .int (iI q), .int (iI b), .int (iI (k : Nat))] [] (ow w ω μ) := by
          intro h9
          refine go_iconst (y := mX11_isSpoken) (pc := 39) dX11_isSpoken_39 ?_
          exact J40 0 (by omega) ⟨fun _ => h9, fun _ => rfl⟩
        refine go_iload_n (y := mX11_isSpoken) (pc := 12) dX11_isSpoken_12 rfl rfl ?_
        refine go_if_ne (y := mX11_isSpoken) (pc := 13) (tgt := 35) dX11_isSpoken_13 (by decide) (by omega) (fun h13 => ?_) (fun h13 => ?_)
        · skip
          exact J35 (fun w9 => h13 (hn.mpr (fun i hi => w9 i (by omega))))
        · skip
          have hn0 := hn.mp (by omega)
          refine go_aload_n (y := mX11_isSpoken) (pc := 16) dX11_isSpoken_16 rfl rfl ?_
          refine go_getR (y := mX11_isSpoken) (pc := 17) dX11_isSpoken_17 fl_X11_40 (ow_sh hw 0 (by decide)) rfl (by omega) ?_
          refine go_iload_n (y := mX11_isSpoken) (pc := 20) dX11_isSpoken_20 rfl rfl ?_
          refine go_wial (y := mX11_isSpoken) (pc := 21) (r := 11) (k := k) dX11_isSpoken_21 hw (by decide) rfl hz rfl (by omega) (by decide) (fun r21 => ?_)
          refine go_if_lt (y := mX11_isSpoken) (pc := 22) (tgt := 39) dX11_isSpoken_22 (by decide) (by omega) (fun h22 => ?_) (fun h22 => ?_)
          · skip
            exact J39 (lt_s hn0 (by omega))
          · skip
            have hE2 := hE.2 (by omega)
            refine go_aload_n (y := mX11_isSpoken) (pc := 25) dX11_isSpoken_25 rfl rfl ?_
            refine go_getR (y := mX11_isSpoken) (pc := 26) dX11_isSpoken_26 fl_X11_43 (ow_sh hw 0 (by decide)) rfl (by omega) ?_
            refine go_iload_n (y := mX11_isSpoken) (pc := 29) dX11_isSpoken_29 rfl rfl ?_
            refine go_wial (y := mX11_isSpoken) (pc := 30) (r := 12) (k := k) dX11_isSpoken_30 hw (by decide) rfl hz rfl (by omega) (by decide) (fun r30 => ?_)
            refine go_iload_n (y := mX11_isSpoken) (pc := 31) dX11_isSpoken_31 rfl rfl ?_
            refine go_icmp_ne (y := mX11_isSpoken) (pc := 32) (tgt := 39) dX11_isSpoken_32 (by decide) (by omega) (by omega) (fun h32 => ?_) (fun h32 => ?_)
            · skip
              exact J39 (lt_s hn0 (by omega))
            · skip
              exact J35 (fun w9 => w9 k (by omega) ⟨by omega, by omega⟩)
  refine go_iconst (y := mX11_isSpoken) (pc := 0) dX11_isSpoken_0 ?_
  refine go_istore_n (y := mX11_isSpoken) (pc := 1) dX11_isSpoken_1 rfl (by decide) ?_
  refine go_iconst (y := mX11_isSpoken) (pc := 2) dX11_isSpoken_2 ?_
  refine go_istore_n (y := mX11_isSpoken) (pc := 3) dX11_isSpoken_3 rfl (by decide) ?_
  exact loop (S 0 0).toNat 0 0 (by omega) (by omega) ⟨fun _ => lt_0, fun _ => rfl⟩
set_option maxRecDepth 8000 in
set_option maxHeartbeats 4000000 in
theorem o_voice {z w : Nat} (hw : is_ow w) (hz : w + 17 ≤ z) {s ω μ : Mem} {m q : Nat} (hm : m < 12) (hq : q < 16) (h4 : ω 4 m = s 3 m) (h10 : ω 10 (16 * m + q) = ln s m q) (hl : -20 ≤ ln s m q ∧ ln s m q ≤ 20) {Q : Option Value → Mem → Prop} {X : String → Mem → Prop} (K : ∀ v, v = vt s m q → v = 0 ∨ v = 1 ∨ v = -1 → Q (some (.int (iI v))) (ow w ω μ)) : mt z 1 0 0 mX11_voice [.ref w, .int (iI (m : Nat)), .int (iI (q : Nat))] Q X (ow w ω μ) := by
  show go z 1 0 0 mX11_voice Q X 0 [.ref w, .int (iI (m : Nat)), .int (iI (q : Nat))] [] _
  refine go_aload_n (y := mX11_voice) (pc := 0) dX11_voice_0 rfl rfl ?_
  refine go_getR (y := mX11_voice) (pc := 1) dX11_voice_1 fl_X11_19 (ow_sh hw 0 (by decide)) rfl (by omega) ?_
  refine go_iload_n (y := mX11_voice) (pc := 4) dX11_voice_4 rfl rfl ?_
  refine go_wial (y := mX11_voice) (pc := 5) (r := 4) (k := m) dX11_voice_5 hw (by decide) rfl hz rfl (by omega) (by decide) (fun r5 => ?_)
  refine go_top (b := s 3 m) (h4) (fun t5 => ?_)
  refine go_if_ne (y := mX11_voice) (pc := 6) (tgt := 13) dX11_voice_6 (by decide) (by omega) (fun h6 => ?_) (fun h6 => ?_)
  · skip
    refine go_aload_n (y := mX11_voice) (pc := 13) dX11_voice_13 rfl rfl ?_
    refine go_getR (y := mX11_voice) (pc := 14) dX11_voice_14 fl_X11_37 (ow_sh hw 0 (by decide)) rfl (by omega) ?_
    refine go_bipush (y := mX11_voice) (pc := 17) dX11_voice_17 (by decide) ?_
    refine go_iload_n (y := mX11_voice) (pc := 19) dX11_voice_19 rfl rfl ?_
    refine go_imul (y := mX11_voice) (pc := 20) dX11_voice_20 ?_
    refine go_iload_n (y := mX11_voice) (pc := 21) dX11_voice_21 rfl rfl ?_
    refine go_iadd (y := mX11_voice) (pc := 22) dX11_voice_22 ?_
    refine go_wial (y := mX11_voice) (pc := 23) (r := 10) (k := ((16 * m) + q)) dX11_voice_23 hw (by decide) rfl hz (by omega) (by omega) (by decide) (fun r23 => ?_)
    refine go_top (b := ln s m q) (h10) (fun t23 => ?_)
    refine go_callS1 (y := mX11_voice) (pc := 24) (y' := mJ6_signum_0f7a4) (kc2 := 0) (ks2 := 0) dX11_voice_24 ml_X11_138 ok_J6_signum_0f7a4 rfl ⟨by decide, Nat.le_refl _, by decide, by decide, by decide⟩ (Nat.le_of_ble_eq_true rfl) rfl (j_signum (by omega) (fun v24 e24 b24 => ?_))
    refine go_ireturn (y := mX11_voice) (pc := 27) dX11_voice_27 rfl ?_
    refine K _ ?_ b24
    rw [e24]
    unfold sgx vt
    (repeat' split) <;> omega
  · skip
    refine go_iconst (y := mX11_voice) (pc := 9) dX11_voice_9 ?_
    refine go_goto (y := mX11_voice) (pc := 10) (tgt := 27) dX11_voice_10 (by decide) ?_
    refine go_ireturn (y := mX11_voice) (pc := 27) dX11_voice_27 rfl ?_
    refine K _ ?_ (by omega)
    unfold vt
    rw [if_pos (Or.inl (by omega))]
