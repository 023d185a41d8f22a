/-! OWN: votes counted, the first request, who turns a vote -/
theorem own_v {S s ω : Mem} {q m : Nat} (hS : wfS S) (hC : wfC S s) (hR : own S s ω) (hq : (q : Int) < s 5 0) (hm : (m : Int) < S 0 7) : m < 12 ∧ q < 16 ∧ ω 1 m = S 2 m ∧ ω 4 m = s 3 m ∧ ω 10 (16 * m + q) = ln s m q ∧ (-20 ≤ ln s m q ∧ ln s m q ≤ 20) ∧ 1 ≤ S 2 m ∧ S 2 m ≤ 9 := by
  have h12 : S 0 7 ≤ 12 := hS.2.2.2.2.2.2.2.2.2.2.2.2.2.2.2.1
  have h16 := hC.1.2.1
  have hb := hR.2.1 m hm
  have hc := hR.2.2.1 q hq
  have hl := hC.2.2.1 q hq
  have hw := hS.2.2.2.2.2.2.2.2.2.2.2.2.2.2.2.2 m hm
  exact ⟨by omega, by omega, hb.1, hb.2.2.2.1, hc.2.2.2.2 m hm, hl.2.2.2.2.2.2.2.2 m hm, hw.1, hw.2.1⟩
set_option maxRecDepth 8000 in
set_option maxHeartbeats 4000000 in
theorem o_side {z w : Nat} (hw : is_ow w) (hz : w + 17 ≤ z) {S s ω μ : Mem} (hS : wfS S) (hC : wfC S s) (hR : own S s ω) {q : Nat} (hq : (q : Int) < s 5 0) {d : Int} (hd : rng d) {Q : Option Value → Mem → Prop} {X : String → Mem → Prop} (K : ∀ v, v = wvt S s q d → 0 ≤ v ∧ v ≤ 108 → Q (some (.int (iI v))) (ow w ω μ)) : mt z 2 0 0 mX11_side [.ref w, .int (iI (q : Nat)), .int (iI d)] Q X (ow w ω μ) := by
  show go z 2 0 0 mX11_side Q X 0 [.ref w, .int (iI (q : Nat)), .int (iI d), .null, .null] [] _
  have n1 : 1 ≤ S 0 7 := hS.2.2.2.2.2.2.2.2.2.2.2.2.2.2.1
  have h12 : S 0 7 ≤ 12 := hS.2.2.2.2.2.2.2.2.2.2.2.2.2.2.2.1
  have e8 := hR.1.2.2.2.2.2.2.2.2.1
  have loop : ∀ (n k : Nat) (a : Int), (k : Int) + n = S 0 7 → a = smf (fun m => if vt s m q = d then S 2 m else 0) k → (0 ≤ a ∧ a ≤ 9 * k) → go z 2 0 0 mX11_side Q X 5 [.ref w, .int (iI (q : Nat)), .int (iI d), .int (iI a), .int (iI (k : Nat))] [] (ow w ω μ) := by
    intro n
    induction n using Nat.strongRecOn with
    | _ n ih =>
      intro k a hk ha hb
      have ih' := ih (n - 1)
      refine go_iload (y := mX11_side) (pc := 5) dX11_side_5 rfl ?_
      refine go_aload_n (y := mX11_side) (pc := 7) dX11_side_7 rfl rfl ?_
      refine go_wget (y := mX11_side) (pc := 8) (r := 0) dX11_side_8 fl_X11_85 hw (by decide) rfl rfl hz (fun r8 => ?_)
      refine go_top (b := S 0 7) (e8) (fun t8 => ?_)
      refine go_icmp_ge (y := mX11_side) (pc := 11) (tgt := 45) dX11_side_11 (by decide) (by omega) (by omega) (fun h11 => ?_) (fun h11 => ?_)
      · skip
        refine go_iload_n (y := mX11_side) (pc := 45) dX11_side_45 rfl rfl ?_
        refine go_ireturn (y := mX11_side) (pc := 46) dX11_side_46 rfl ?_
        refine K _ ?_ (by omega)
        rw [ha]
        unfold wvt
        rw [show (S 0 7).toNat = k by omega]
      · skip
        obtain ⟨v1, v2, v3, v4, v5, v6, v7, v8⟩ := own_v hS hC hR hq (m := k) (by omega)
        have J37 : ∀ v : Int, v = (if vt s k q = d then S 2 k else 0) → go z 2 0 0 mX11_side Q X 37 [.ref w, .int (iI (q : Nat)), .int (iI d), .int (iI a), .int (iI (k : Nat))] [.int (iI v), .int (iI a)] (ow w ω μ) := by
          intro v hv
          refine go_iadd (y := mX11_side) (pc := 37) dX11_side_37 ?_
          refine go_istore_n (y := mX11_side) (pc := 38) dX11_side_38 rfl (by decide) ?_
          refine go_iinc (y := mX11_side) (pc := 39) dX11_side_39 rfl (by decide) ?_
          refine go_goto (y := mX11_side) (pc := 42) (tgt := 5) dX11_side_42 (by decide) ?_
          exact ih' (by omega) (k + 1) (a + v) (by omega) (by rw [smf, ← hv, ← ha]) (by split at hv <;> omega)
        refine go_iload_n (y := mX11_side) (pc := 14) dX11_side_14 rfl rfl ?_
        refine go_aload_n (y := mX11_side) (pc := 15) dX11_side_15 rfl rfl ?_
        refine go_iload (y := mX11_side) (pc := 16) dX11_side_16 rfl ?_
        refine go_iload_n (y := mX11_side) (pc := 18) dX11_side_18 rfl rfl ?_
        refine go_callV2 (y := mX11_side) (pc := 19) (y' := mX11_voice) (kc2 := 0) (ks2 := 0) dX11_side_19 ml_X11_143 ok_X11_voice (ow_sh hw 0 (by decide)) ⟨_, _, rfl⟩ (by omega) ⟨rfl, rfl⟩ ⟨by decide, Nat.le_refl _, by decide, by decide, by decide⟩ (Nat.le_of_ble_eq_true rfl) rfl (o_voice hw hz (m := k) (q := q) v1 v2 v4 v5 v6 (fun v19 e19 b19 => ?_))
        refine go_iload_n (y := mX11_side) (pc := 22) dX11_side_22 rfl rfl ?_
        refine go_icmp_ne (y := mX11_side) (pc := 23) (tgt := 36) dX11_side_23 (by decide) (by omega) (by omega) (fun h23 => ?_) (fun h23 => ?_)
        · skip
          refine go_iconst (y := mX11_side) (pc := 36) dX11_side_36 ?_
          exact J37 0 (by rw [if_neg (by omega)])
        · skip
          refine go_aload_n (y := mX11_side) (pc := 26) dX11_side_26 rfl rfl ?_
          refine go_getR (y := mX11_side) (pc := 27) dX11_side_27 fl_X11_7 (ow_sh hw 0 (by decide)) rfl (by omega) ?_
          refine go_iload (y := mX11_side) (pc := 30) dX11_side_30 rfl ?_
          refine go_wial (y := mX11_side) (pc := 32) (r := 1) (k := k) dX11_side_32 hw (by decide) rfl hz rfl (by omega) (by decide) (fun r32 => ?_)
          refine go_top (b := S 2 k) (v3) (fun t32 => ?_)
          refine go_goto (y := mX11_side) (pc := 33) (tgt := 37) dX11_side_33 (by decide) ?_
          exact J37 _ (by rw [if_pos (by omega)])
  refine go_iconst (y := mX11_side) (pc := 0) dX11_side_0 ?_
  refine go_istore_n (y := mX11_side) (pc := 1) dX11_side_1 rfl (by decide) ?_
  refine go_iconst (y := mX11_side) (pc := 2) dX11_side_2 ?_
  refine go_istore (y := mX11_side) (pc := 3) dX11_side_3 (by decide) ?_
  exact loop (S 0 7).toNat 0 0 (by omega) rfl (by omega)
set_option maxRecDepth 8000 in
set_option maxHeartbeats 4000000 in
theorem o_voters {z w : Nat} (hw : is_ow w) (hz : w + 17 ≤ z) {S s ω μ : Mem} (hS : wfS S) (hC : wfC S s) (hR : own S s ω) {q : Nat} (hq : (q : Int) < s 5 0) {Q : Option Value → Mem → Prop} {X : String → Mem → Prop} (K : ∀ v, v = nvt S s q → 0 ≤ v ∧ v ≤ 12 → Q (some (.int (iI v))) (ow w ω μ)) : mt z 2 0 0 mX11_voters [.ref w, .int (iI (q : Nat))] Q X (ow w ω μ) := by
  show go z 2 0 0 mX11_voters Q X 0 [.ref w, .int (iI (q : Nat)), .null, .null] [] _
  have n1 : 1 ≤ S 0 7 := hS.2.2.2.2.2.2.2.2.2.2.2.2.2.2.1
  have h12 : S 0 7 ≤ 12 := hS.2.2.2.2.2.2.2.2.2.2.2.2.2.2.2.1
  have e8 := hR.1.2.2.2.2.2.2.2.2.1
  have loop : ∀ (n k : Nat) (a : Int), (k : Int) + n = S 0 7 → a = smf (fun m => if vt s m q = 0 then 0 else 1) k → (0 ≤ a ∧ a ≤ k) → go z 2 0 0 mX11_voters Q X 4 [.ref w, .int (iI (q : Nat)), .int (iI a), .int (iI (k : Nat))] [] (ow w ω μ) := by
    intro n
    induction n using Nat.strongRecOn with
    | _ n ih =>
      intro k a hk ha hb
      have ih' := ih (n - 1)
      refine go_iload_n (y := mX11_voters) (pc := 4) dX11_voters_4 rfl rfl ?_
      refine go_aload_n (y := mX11_voters) (pc := 5) dX11_voters_5 rfl rfl ?_
      refine go_wget (y := mX11_voters) (pc := 6) (r := 0) dX11_voters_6 fl_X11_85 hw (by decide) rfl rfl hz (fun r6 => ?_)
      refine go_top (b := S 0 7) (e8) (fun t6 => ?_)
      refine go_icmp_ge (y := mX11_voters) (pc := 9) (tgt := 35) dX11_voters_9 (by decide) (by omega) (by omega) (fun h9 => ?_) (fun h9 => ?_)
      · skip
        refine go_iload_n (y := mX11_voters) (pc := 35) dX11_voters_35 rfl rfl ?_
        refine go_ireturn (y := mX11_voters) (pc := 36) dX11_voters_36 rfl ?_
        refine K _ ?_ (by omega)
        rw [ha]
        unfold nvt
        rw [show (S 0 7).toNat = k by omega]
      · skip
        obtain ⟨v1, v2, v3, v4, v5, v6, v7, v8⟩ := own_v hS hC hR hq (m := k) (by omega)
        have J27 : ∀ v : Int, v = (if vt s k q = 0 then 0 else 1) → go z 2 0 0 mX11_voters Q X 27 [.ref w, .int (iI (q : Nat)), .int (iI a), .int (iI (k : Nat))] [.int (iI v), .int (iI a)] (ow w ω μ) := by
          intro v hv
          refine go_iadd (y := mX11_voters) (pc := 27) dX11_voters_27 ?_
          refine go_istore_n (y := mX11_voters) (pc := 28) dX11_voters_28 rfl (by decide) ?_
          refine go_iinc (y := mX11_voters) (pc := 29) dX11_voters_29 rfl (by decide) ?_
          refine go_goto (y := mX11_voters) (pc := 32) (tgt := 4) dX11_voters_32 (by decide) ?_
          exact ih' (by omega) (k + 1) (a + v) (by omega) (by rw [smf, ← hv, ← ha]) (by split at hv <;> omega)
        refine go_iload_n (y := mX11_voters) (pc := 12) dX11_voters_12 rfl rfl ?_
        refine go_aload_n (y := mX11_voters) (pc := 13) dX11_voters_13 rfl rfl ?_
        refine go_iload_n (y := mX11_voters) (pc := 14) dX11_voters_14 rfl rfl ?_
        refine go_iload_n (y := mX11_voters) (pc := 15) dX11_voters_15 rfl rfl ?_
        refine go_callV2 (y := mX11_voters) (pc := 16) (y' := mX11_voice) (kc2 := 0) (ks2 := 0) dX11_voters_16 ml_X11_143 ok_X11_voice (ow_sh hw 0 (by decide)) ⟨_, _, rfl⟩ (by omega) ⟨rfl, rfl⟩ ⟨by decide, Nat.le_refl _, by decide, by decide, by decide⟩ (Nat.le_of_ble_eq_true rfl) rfl (o_voice hw hz (m := k) (q := q) v1 v2 v4 v5 v6 (fun v16 e16 b16 => ?_))
        refine go_if_eq (y := mX11_voters) (pc := 19) (tgt := 26) dX11_voters_19 (by decide) (by omega) (fun h19 => ?_) (fun h19 => ?_)
        · skip
          refine go_iconst (y := mX11_voters) (pc := 26) dX11_voters_26 ?_
          exact J27 0 (by rw [if_pos (by omega)])
        · skip
          refine go_iconst (y := mX11_voters) (pc := 22) dX11_voters_22 ?_
          refine go_goto (y := mX11_voters) (pc := 23) (tgt := 27) dX11_voters_23 (by decide) ?_
          exact J27 1 (by rw [if_neg (by omega)])
  refine go_iconst (y := mX11_voters) (pc := 0) dX11_voters_0 ?_
  refine go_istore_n (y := mX11_voters) (pc := 1) dX11_voters_1 rfl (by decide) ?_
  refine go_iconst (y := mX11_voters) (pc := 2) dX11_voters_2 ?_
  refine go_istore_n (y := mX11_voters) (pc := 3) dX11_voters_3 rfl (by decide) ?_
  exact loop (S 0 7).toNat 0 0 (by omega) rfl (by omega)
theorem obo_n {S s : Mem} {q : Nat} (hq : (q : Int) < s 5 0) : obo S s (q : Int) = obs S s q := by
  unfold obo opn
  rw [Int.toNat_natCast]
  by_cases h : s 7 q = 0
  · rw [if_pos ⟨by omega, hq, h⟩]
  · rw [if_neg (fun w => h w.2.2)]
    unfold obs
    rw [if_pos h]
set_option maxRecDepth 8000 in
set_option maxHeartbeats 4000000 in
theorem o_obstacle {z w : Nat} (hw : is_ow w) (hz : w + 17 ≤ z) {S s ω μ : Mem} (hS : wfS S) (hC : wfC S s) (hR : own S s ω) {q : Nat} (hq : (q : Int) < s 5 0) {Q : Option Value → Mem → Prop} {X : String → Mem → Prop} (K : ∀ v, v = obs S s q → 0 ≤ v ∧ v ≤ 4 → Q (some (.int (iI v))) (ow w ω μ)) : mt z 3 0 0 mX11_obstacle [.ref w, .int (iI (q : Nat))] Q X (ow w ω μ) := by
  show go z 3 0 0 mX11_obstacle Q X 0 [.ref w, .int (iI (q : Nat))] [] _
  have h16 := hC.1.2.1
  have hc := hR.2.2.1 q hq
  have hl := hC.2.2.1 q hq
  have e5 := hR.1.2.2.2.2.2.1
  have e6 := hR.1.2.2.2.2.2.2.1
  have q5 := hS.2.2.2.2.2.2.2.2.2.2.1
  have q6 := hS.2.2.2.2.2.2.2.2.2.2.2.2.1
  have q6b := hS.2.2.2.2.2.2.2.2.2.2.2.2.2.1
  have q5b := hS.2.2.2.2.2.2.2.2.2.2.2.1
  refine go_aload_n (y := mX11_obstacle) (pc := 0) dX11_obstacle_0 rfl rfl ?_
  refine go_getR (y := mX11_obstacle) (pc := 1) dX11_obstacle_1 fl_X11_31 (ow_sh hw 0 (by decide)) rfl (by omega) ?_
  refine go_iload_n (y := mX11_obstacle) (pc := 4) dX11_obstacle_4 rfl rfl ?_
  refine go_wial (y := mX11_obstacle) (pc := 5) (r := 8) (k := q) dX11_obstacle_5 hw (by decide) rfl hz rfl (by omega) (by decide) (fun r5 => ?_)
  refine go_top (b := s 7 q) (hc.2.2.1) (fun t5 => ?_)
  refine go_if_le (y := mX11_obstacle) (pc := 6) (tgt := 13) dX11_obstacle_6 (by decide) (by omega) (fun h6 => ?_) (fun h6 => ?_)
  · skip
    refine go_aload_n (y := mX11_obstacle) (pc := 13) dX11_obstacle_13 rfl rfl ?_
    refine go_getR (y := mX11_obstacle) (pc := 14) dX11_obstacle_14 fl_X11_28 (ow_sh hw 0 (by decide)) rfl (by omega) ?_
    refine go_iload_n (y := mX11_obstacle) (pc := 17) dX11_obstacle_17 rfl rfl ?_
    refine go_wial (y := mX11_obstacle) (pc := 18) (r := 7) (k := q) dX11_obstacle_18 hw (by decide) rfl hz rfl (by omega) (by decide) (fun r18 => ?_)
    refine go_top (b := s 8 q) (hc.2.1) (fun t18 => ?_)
    refine go_aload_n (y := mX11_obstacle) (pc := 19) dX11_obstacle_19 rfl rfl ?_
    refine go_wget (y := mX11_obstacle) (pc := 20) (r := 0) dX11_obstacle_20 fl_X11_76 hw (by decide) rfl rfl hz (fun r20 => ?_)
    refine go_top (b := S 0 5) (e5) (fun t20 => ?_)
    refine go_icmp_ge (y := mX11_obstacle) (pc := 23) (tgt := 30) dX11_obstacle_23 (by decide) (by omega) (by omega) (fun h23 => ?_) (fun h23 => ?_)
    · skip
      refine go_aload_n (y := mX11_obstacle) (pc := 30) dX11_obstacle_30 rfl rfl ?_
      refine go_iload_n (y := mX11_obstacle) (pc := 31) dX11_obstacle_31 rfl rfl ?_
      refine go_callV1 (y := mX11_obstacle) (pc := 32) (y' := mX11_isSpoken) (kc2 := 0) (ks2 := 0) dX11_obstacle_32 ml_X11_146 ok_X11_isSpoken (ow_sh hw 0 (by decide)) ⟨_, _, rfl⟩ (by omega) rfl ⟨by decide, Nat.le_refl _, by decide, by decide, by decide⟩ (Nat.le_of_ble_eq_true rfl) rfl (o_isSpoken hw hz hS hC hR (by omega) (fun v32 e32 b32 => ?_))
      refine go_if_eq (y := mX11_obstacle) (pc := 35) (tgt := 42) dX11_obstacle_35 (by decide) (by omega) (fun h35 => ?_) (fun h35 => ?_)
      · skip
        refine go_aload_n (y := mX11_obstacle) (pc := 42) dX11_obstacle_42 rfl rfl ?_
        refine go_iload_n (y := mX11_obstacle) (pc := 43) dX11_obstacle_43 rfl rfl ?_
        refine go_callV1 (y := mX11_obstacle) (pc := 44) (y' := mX11_voters) (kc2 := 0) (ks2 := 0) dX11_obstacle_44 ml_X11_149 ok_X11_voters (ow_sh hw 0 (by decide)) ⟨_, _, rfl⟩ (by omega) rfl ⟨by decide, Nat.le_refl _, by decide, by decide, by decide⟩ (Nat.le_of_ble_eq_true rfl) rfl (o_voters hw hz hS hC hR (q := q) (by omega) (fun v44 e44 b44 => ?_))
        refine go_aload_n (y := mX11_obstacle) (pc := 47) dX11_obstacle_47 rfl rfl ?_
        refine go_wget (y := mX11_obstacle) (pc := 48) (r := 0) dX11_obstacle_48 fl_X11_79 hw (by decide) rfl rfl hz (fun r48 => ?_)
        refine go_top (b := S 0 6) (e6) (fun t48 => ?_)
        refine go_icmp_ge (y := mX11_obstacle) (pc := 51) (tgt := 58) dX11_obstacle_51 (by decide) (by omega) (by omega) (fun h51 => ?_) (fun h51 => ?_)
        · skip
          refine go_iconst (y := mX11_obstacle) (pc := 58) dX11_obstacle_58 ?_
          refine go_ireturn (y := mX11_obstacle) (pc := 59) dX11_obstacle_59 rfl ?_
          exact K _ (by unfold obs; rw [if_neg (by omega), if_neg (by omega), if_neg (bI_0 e32 h35), if_neg (by omega)]) (by omega)
        · skip
          refine go_iconst (y := mX11_obstacle) (pc := 54) dX11_obstacle_54 ?_
          refine go_goto (y := mX11_obstacle) (pc := 55) (tgt := 59) dX11_obstacle_55 (by decide) ?_
          refine go_ireturn (y := mX11_obstacle) (pc := 59) dX11_obstacle_59 rfl ?_
          exact K _ (by unfold obs; rw [if_neg (by omega), if_neg (by omega), if_neg (bI_0 e32 h35), if_pos (by omega)]) (by omega)
      · skip
        refine go_iconst (y := mX11_obstacle) (pc := 38) dX11_obstacle_38 ?_
        refine go_goto (y := mX11_obstacle) (pc := 39) (tgt := 59) dX11_obstacle_39 (by decide) ?_
        refine go_ireturn (y := mX11_obstacle) (pc := 59) dX11_obstacle_59 rfl ?_
        exact K _ (by unfold obs; rw [if_neg (by omega), if_neg (by omega), if_pos (bI_1 e32 h35)]) (by omega)
    · skip
      refine go_iconst (y := mX11_obstacle) (pc := 26) dX11_obstacle_26 ?_
      refine go_goto (y := mX11_obstacle) (pc := 27) (tgt := 59) dX11_obstacle_27 (by decide) ?_
      refine go_ireturn (y := mX11_obstacle) (pc := 59) dX11_obstacle_59 rfl ?_
      exact K _ (by unfold obs; rw [if_neg (by omega), if_pos (by omega)]) (by omega)
  · skip
    refine go_iconst (y := mX11_obstacle) (pc := 9) dX11_obstacle_9 ?_
    refine go_goto (y := mX11_obstacle) (pc := 10) (tgt := 59) dX11_obstacle_10 (by decide) ?_
    refine go_ireturn (y := mX11_obstacle) (pc := 59) dX11_obstacle_59 rfl ?_
    exact K _ (by unfold obs; rw [if_pos (by omega)]) (by omega)
/-! THE LEAST, the first of equals -/
def isSel (T : Nat → Prop) (f : Nat → Int) (lo hi : Nat) (b : Int) : Prop :=
  (b = -1 ∧ ∀ j, lo ≤ j → j < hi → ¬ T j) ∨ ∃ i : Nat, b = i ∧ lo ≤ i ∧ i < hi ∧ T i ∧ ∀ j, lo ≤ j → j < hi → T j → f i ≤ f j ∧ (j < i → f i < f j)
theorem sel_u {T : Nat → Prop} {f : Nat → Int} {lo hi : Nat} {b c : Int} (h : isSel T f lo hi b) (g : isSel T f lo hi c) : b = c := by
  rcases h with ⟨h1, h2⟩ | ⟨i, h1, h2, h3, h4, h5⟩ <;> rcases g with ⟨g1, g2⟩ | ⟨k, g1, g2, g3, g4, g5⟩
  · omega
  · exact absurd g4 (h2 k g2 g3)
  · exact absurd h4 (g2 i h2 h3)
  · have p := h5 k g2 g3 g4
    have q := g5 i h2 h3 h4
    have r : i = k := by
      rcases Nat.lt_trichotomy i k with e | e | e
      · have := q.2 e; omega
      · exact e
      · have := p.2 e; omega
    omega
theorem sel_e {T : Nat → Prop} {f : Nat → Int} {k : Nat} : isSel T f k k (-1) := Or.inl ⟨rfl, fun j h1 h2 => by omega⟩
theorem sel_d1 {T : Nat → Prop} {f : Nat → Int} {lo hi : Nat} {b : Int} (h : isSel T f (lo + 1) hi b) (hlt : lo < hi) (hT : T lo) (hb : b = -1 ∨ ∀ i : Nat, b = i → f lo ≤ f i) : isSel T f lo hi lo := by
  refine Or.inr ⟨lo, rfl, Nat.le_refl _, hlt, hT, fun j h1 h2 hj => ⟨?_, fun w => by omega⟩⟩
  by_cases e : j = lo
  · subst e; exact Int.le_refl _
  · rcases h with ⟨g1, g2⟩ | ⟨i, g1, g2, g3, g4, g5⟩
    · exact absurd hj (g2 j (by omega) h2)
    · rcases hb with hb | hb
      · omega
      · have := hb i g1
        have := (g5 j (by omega) h2 hj).1
        omega
theorem sel_d2 {T : Nat → Prop} {f : Nat → Int} {lo hi : Nat} {b : Int} (h : isSel T f (lo + 1) hi b) (hn : ¬ T lo ∨ ∃ i : Nat, b = i ∧ f i < f lo) : isSel T f lo hi b := by
  rcases h with ⟨g1, g2⟩ | ⟨i, g1, g2, g3, g4, g5⟩
  · refine Or.inl ⟨g1, fun j h1 h2 => ?_⟩
    by_cases e : j = lo
    · subst e
      rcases hn with hn | ⟨i, hi, -⟩
      · exact hn
      · omega
    · exact g2 j (by omega) h2
  · refine Or.inr ⟨i, g1, by omega, g3, g4, fun j h1 h2 hj => ?_⟩
    by_cases e : j = lo
    · subst e
      rcases hn with hn | ⟨k, hk, hk2⟩
      · exact absurd hj hn
      · have : k = i := by omega
        subst this
        exact ⟨by omega, fun _ => hk2⟩
    · exact g5 j (by omega) h2 hj
theorem sel_u1 {T : Nat → Prop} {f : Nat → Int} {lo hi : Nat} {b : Int} (h : isSel T f lo hi b) (hlo : lo ≤ hi) (hT : T hi) (hb : b = -1 ∨ ∃ i : Nat, b = i ∧ f hi < f i) : isSel T f lo (hi + 1) hi := by
  refine Or.inr ⟨hi, rfl, hlo, by omega, hT, fun j h1 h2 hj => ?_⟩
  by_cases e : j = hi
  · subst e; exact ⟨Int.le_refl _, fun w => by omega⟩
  · rcases h with ⟨g1, g2⟩ | ⟨i, g1, g2, g3, g4, g5⟩
    · exact absurd hj (g2 j h1 (by omega))
    · rcases hb with hb | ⟨k, hk, hk2⟩
      · omega
      · have e2 : k = i := by omega
        subst e2
        have := (g5 j h1 (by omega) hj).1
        exact ⟨by omega, fun _ => by omega⟩
theorem sel_u2 {T : Nat → Prop} {f : Nat → Int} {lo hi : Nat} {b : Int} (h : isSel T f lo hi b) (hn : ¬ T hi ∨ ∃ i : Nat, b = i ∧ f i ≤ f hi) : isSel T f lo (hi + 1) b := by
  rcases h with ⟨g1, g2⟩ | ⟨i, g1, g2, g3, g4, g5⟩
  · refine Or.inl ⟨g1, fun j h1 h2 => ?_⟩
    by_cases e : j = hi
    · subst e
      rcases hn with hn | ⟨i, hi, -⟩
      · exact hn
      · omega
    · exact g2 j h1 (by omega)
  · refine Or.inr ⟨i, g1, g2, by omega, g4, fun j h1 h2 hj => ?_⟩
    by_cases e : j = hi
    · subst e
      rcases hn with hn | ⟨k, hk, hk2⟩
      · exact absurd hj hn
      · have : k = i := by omega
        subst this
        exact ⟨by omega, fun w => by omega⟩
    · exact g5 j h1 (by omega) hj
theorem fsk_sel (S s : Mem) (rk : Int) : ∀ k : Nat, isSel (fun _ => True) (fun r => rnk S s r rk) 0 k (fsk S s rk k).1 ∧ ∀ i : Nat, (fsk S s rk k).1 = i → (fsk S s rk k).2 = rnk S s i rk
  | 0 => ⟨sel_e, fun i h => by have h9 : (-1 : Int) = i := h; omega⟩
  | k + 1 => by
    obtain ⟨h1, h2⟩ := fsk_sel S s rk k
    rw [fsk]
    by_cases g : (fsk S s rk k).1 = -1 ∨ rnk S s k rk < (fsk S s rk k).2
    · rw [if_pos g]
      refine ⟨sel_u1 h1 (Nat.zero_le _) trivial ?_, fun i hi => ?_⟩
      · rcases g with g | g
        · exact Or.inl g
        · by_cases g2 : (fsk S s rk k).1 = -1
          · exact Or.inl g2
          · rcases h1 with ⟨w, -⟩ | ⟨i, w, -⟩
            · exact absurd w g2
            · exact Or.inr ⟨i, w, by rw [h2 i w] at g; exact g⟩
      · have e : i = k := by have : (k : Int) = i := hi; omega
        subst e; rfl
    · rw [if_neg g]
      refine ⟨sel_u2 h1 ?_, h2⟩
      rcases h1 with ⟨w, -⟩ | ⟨i, w, -⟩
      · exact absurd (Or.inl w) g
      · refine Or.inr ⟨i, w, ?_⟩
        have := h2 i w
        show rnk S s i rk ≤ rnk S s k rk
        omega
theorem fsl_sel (S s : Mem) (rk : Int) : isSel (fun _ => True) (fun r => rnk S s r rk) 0 (s 11 0).toNat (fsl S s rk) := (fsk_sel S s rk _).1
abbrev trT (S s : Mem) (q : Nat) (k : Nat) : Prop := (decide (0 < mgn S s q - 2 * vt s k q * S 2 k) != decide (0 < mgn S s q)) = true
theorem ltk_sel (S s : Mem) (q : Nat) : ∀ k : Nat, isSel (trT S s q) (fun m => S 2 m) 0 k (ltk S s q k).1 ∧ ∀ i : Nat, (ltk S s q k).1 = i → (ltk S s q k).2 = S 2 i
  | 0 => ⟨sel_e, fun i h => by have h9 : (-1 : Int) = i := h; omega⟩
  | k + 1 => by
    obtain ⟨h1, h2⟩ := ltk_sel S s q k
    rw [ltk]
    by_cases g : trT S s q k ∧ ((ltk S s q k).1 = -1 ∨ S 2 k < (ltk S s q k).2)
    · rw [if_pos g]
      refine ⟨sel_u1 h1 (Nat.zero_le _) g.1 ?_, fun i hi => ?_⟩
      · by_cases g2 : (ltk S s q k).1 = -1
        · exact Or.inl g2
        · rcases h1 with ⟨w, -⟩ | ⟨i, w, -⟩
          · exact absurd w g2
          · refine Or.inr ⟨i, w, ?_⟩
            have := h2 i w
            have := g.2
            show S 2 k < S 2 i
            omega
      · have e : i = k := by have : (k : Int) = i := hi; omega
        subst e; rfl
    · rw [if_neg g]
      refine ⟨sel_u2 h1 ?_, h2⟩
      by_cases t : trT S s q k
      · rcases h1 with ⟨w, -⟩ | ⟨i, w, -⟩
        · exact absurd ⟨t, Or.inl w⟩ g
        · refine Or.inr ⟨i, w, ?_⟩
          have := h2 i w
          show S 2 i ≤ S 2 k
          by_cases g3 : S 2 k < (ltk S s q k).2
          · exact absurd ⟨t, Or.inr g3⟩ g
          · omega
      · exact Or.inl t
/-- Own's number of a request: the more, the sooner -/
def scr (S s : Mem) (r : Nat) (bb : Int) : Int := (if bb = 3 then 1 else 0) - rnk S s r bb
/-- speeches are counted, and are few -/
def lim (S s : Mem) (N : Int) : Prop := ∀ m : Nat, (m : Int) < S 0 7 → 0 ≤ s 4 m ∧ s 4 m ≤ N
set_option maxRecDepth 8000 in
set_option maxHeartbeats 4000000 in
theorem o_score {z w : Nat} (hw : is_ow w) (hz : w + 17 ≤ z) {S s ω μ : Mem} (hS : wfS S) (hC : wfC S s) (hR : own S s ω) {r : Nat} (hr : (r : Int) < s 11 0) {b : Int} (hb : 0 ≤ b ∧ b ≤ 3) {Q : Option Value → Mem → Prop} {X : String → Mem → Prop} (K : ∀ v, v = scr S s r b → Q (some (.int (iI v))) (ow w ω μ)) : mt z 1 0 0 mX11_score [.ref w, .int (iI (r : Nat)), .int (iI b)] Q X (ow w ω μ) := by
  show go z 1 0 0 mX11_score Q X 0 [.ref w, .int (iI (r : Nat)), .int (iI b), .null] [] _
  have h12 : S 0 7 ≤ 12 := hS.2.2.2.2.2.2.2.2.2.2.2.2.2.2.2.1
  have h16 := hC.1.2.1
  obtain ⟨m, hm⟩ := Int.eq_ofNat_of_zero_le (hC.2.2.2.1 r hr).1
  obtain ⟨q, hq⟩ := Int.eq_ofNat_of_zero_le (hC.2.2.2.1 r hr).2.2.1
  have hd := hC.2.2.2.1 r hr
  have hB := hR.2.1 m (by omega)
  have hQ := hR.2.2.1 q (by omega)
  have hc9 := hC.2.2.1 q (by omega)
  refine go_iload_n (y := mX11_score) (pc := 0) dX11_score_0 rfl rfl ?_
  refine go_iconst (y := mX11_score) (pc := 1) dX11_score_1 ?_
  refine go_icmp_ne (y := mX11_score) (pc := 2) (tgt := 16) dX11_score_2 (by decide) (by omega) (by omega) (fun h2 => ?_) (fun h2 => ?_)
  · skip
    refine go_iload_n (y := mX11_score) (pc := 16) dX11_score_16 rfl rfl ?_
    refine go_iconst (y := mX11_score) (pc := 17) dX11_score_17 ?_
    refine go_icmp_ne (y := mX11_score) (pc := 18) (tgt := 33) dX11_score_18 (by decide) (by omega) (by omega) (fun h18 => ?_) (fun h18 => ?_)
    · skip
      have J74 : ∀ u : Value, scr S s r b = 0 → go z 1 0 0 mX11_score Q X 74 [.ref w, .int (iI (r : Nat)), .int (iI b), u] [] (ow w ω μ) := by
        intro u h9
        refine go_iconst (y := mX11_score) (pc := 74) dX11_score_74 ?_
        refine go_ireturn (y := mX11_score) (pc := 75) dX11_score_75 rfl ?_
        exact K 0 h9.symm
      have e3 : b = 3 → scr S s r b = 1 - (if s 9 q = -(s 14 r) then 0 else 1) := fun g => by
        unfold scr rnk
        rw [hq, if_pos g, if_neg (by omega), if_neg (by omega), if_pos g]
        rfl
      refine go_aload_n (y := mX11_score) (pc := 33) dX11_score_33 rfl rfl ?_
      refine go_getR (y := mX11_score) (pc := 34) dX11_score_34 fl_X11_34 (ow_sh hw 0 (by decide)) rfl (by omega) ?_
      refine go_aload_n (y := mX11_score) (pc := 37) dX11_score_37 rfl rfl ?_
      refine go_iload_n (y := mX11_score) (pc := 38) dX11_score_38 rfl rfl ?_
      refine go_callV1 (y := mX11_score) (pc := 39) (y' := mX11_what) (kc2 := 0) (ks2 := 0) dX11_score_39 ml_X11_116 ok_X11_what (ow_sh hw 0 (by decide)) ⟨_, _, rfl⟩ (by omega) rfl ⟨by decide, Nat.le_refl _, by decide, by decide, by decide⟩ (Nat.le_of_ble_eq_true rfl) rfl (o_what hw hz hS hC (r := r) (by omega) (own_F hS hC hR hr) ?_)
      rw [hq]
      refine go_wial (y := mX11_score) (pc := 42) (r := 9) (k := q) dX11_score_42 hw (by decide) rfl hz rfl (by omega) (by decide) (fun r42 => ?_)
      refine go_top (b := s 9 q) (hQ.2.2.2.1) (fun t42 => ?_)
      refine go_istore_n (y := mX11_score) (pc := 43) dX11_score_43 rfl (by decide) ?_
      refine go_iload_n (y := mX11_score) (pc := 44) dX11_score_44 rfl rfl ?_
      refine go_iconst (y := mX11_score) (pc := 45) dX11_score_45 ?_
      refine go_icmp_ne (y := mX11_score) (pc := 46) (tgt := 74) dX11_score_46 (by decide) (by omega) (by omega) (fun h46 => ?_) (fun h46 => ?_)
      · skip
        exact J74 _ (by unfold scr rnk; rw [if_neg (by omega), if_neg (by omega), if_neg (by omega), if_neg (by omega)]; rfl)
      · skip
        refine go_iload_n (y := mX11_score) (pc := 49) dX11_score_49 rfl rfl ?_
        refine go_if_eq (y := mX11_score) (pc := 50) (tgt := 74) dX11_score_50 (by decide) (by omega) (fun h50 => ?_) (fun h50 => ?_)
        · skip
          exact J74 _ (by rw [e3 h46, if_neg (by omega)]; rfl)
        · skip
          refine go_iload_n (y := mX11_score) (pc := 53) dX11_score_53 rfl rfl ?_
          refine go_if_le (y := mX11_score) (pc := 54) (tgt := 61) dX11_score_54 (by decide) (by omega) (fun h54 => ?_) (fun h54 => ?_)
          · skip
            refine go_iconst (y := mX11_score) (pc := 61) dX11_score_61 ?_
            refine go_aload_n (y := mX11_score) (pc := 62) dX11_score_62 rfl rfl ?_
            refine go_iload_n (y := mX11_score) (pc := 63) dX11_score_63 rfl rfl ?_
            refine go_callV1 (y := mX11_score) (pc := 64) (y' := mX11_isForAt) (kc2 := 0) (ks2 := 0) dX11_score_64 ml_X11_119 ok_X11_isForAt (ow_sh hw 0 (by decide)) ⟨_, _, rfl⟩ (by omega) rfl ⟨by decide, Nat.le_refl _, by decide, by decide, by decide⟩ (Nat.le_of_ble_eq_true rfl) rfl (o_isForAt hw hz hS hC (r := r) (by omega) (own_F hS hC hR (by omega)) (fun v64 e64 b64 => ?_))
            refine go_icmp_eq (y := mX11_score) (pc := 67) (tgt := 74) dX11_score_67 (by decide) (by omega) (by omega) (fun h67 => ?_) (fun h67 => ?_)
            · skip
              exact J74 _ (by rw [e3 h46, if_neg (by have := bI_0 e64 (by omega); omega)]; rfl)
            · skip
              refine go_iconst (y := mX11_score) (pc := 70) dX11_score_70 ?_
              refine go_goto (y := mX11_score) (pc := 71) (tgt := 75) dX11_score_71 (by decide) ?_
              refine go_ireturn (y := mX11_score) (pc := 75) dX11_score_75 rfl ?_
              exact K 1 (by rw [e3 h46, if_pos (by have := bI_1 e64 (by omega); omega)]; rfl)
          · skip
            refine go_iconst (y := mX11_score) (pc := 57) dX11_score_57 ?_
            refine go_goto (y := mX11_score) (pc := 58) (tgt := 62) dX11_score_58 (by decide) ?_
            refine go_aload_n (y := mX11_score) (pc := 62) dX11_score_62 rfl rfl ?_
            refine go_iload_n (y := mX11_score) (pc := 63) dX11_score_63 rfl rfl ?_
            refine go_callV1 (y := mX11_score) (pc := 64) (y' := mX11_isForAt) (kc2 := 0) (ks2 := 0) dX11_score_64 ml_X11_119 ok_X11_isForAt (ow_sh hw 0 (by decide)) ⟨_, _, rfl⟩ (by omega) rfl ⟨by decide, Nat.le_refl _, by decide, by decide, by decide⟩ (Nat.le_of_ble_eq_true rfl) rfl (o_isForAt hw hz hS hC (r := r) (by omega) (own_F hS hC hR (by omega)) (fun v64 e64 b64 => ?_))
            refine go_icmp_eq (y := mX11_score) (pc := 67) (tgt := 74) dX11_score_67 (by decide) (by omega) (by omega) (fun h67 => ?_) (fun h67 => ?_)
            · skip
              exact J74 _ (by rw [e3 h46, if_neg (by have := bI_1 e64 (by omega); omega)]; rfl)
            · skip
              refine go_iconst (y := mX11_score) (pc := 70) dX11_score_70 ?_
              refine go_goto (y := mX11_score) (pc := 71) (tgt := 75) dX11_score_71 (by decide) ?_
              refine go_ireturn (y := mX11_score) (pc := 75) dX11_score_75 rfl ?_
              exact K 1 (by rw [e3 h46, if_pos (by have := bI_0 e64 (by omega); omega)]; rfl)
    · skip
      refine go_aload_n (y := mX11_score) (pc := 21) dX11_score_21 rfl rfl ?_
      refine go_getR (y := mX11_score) (pc := 22) dX11_score_22 fl_X11_22 (ow_sh hw 0 (by decide)) rfl (by omega) ?_
      refine go_aload_n (y := mX11_score) (pc := 25) dX11_score_25 rfl rfl ?_
      refine go_iload_n (y := mX11_score) (pc := 26) dX11_score_26 rfl rfl ?_
      refine go_callV1 (y := mX11_score) (pc := 27) (y' := mX11_who) (kc2 := 0) (ks2 := 0) dX11_score_27 ml_X11_112 ok_X11_who (ow_sh hw 0 (by decide)) ⟨_, _, rfl⟩ (by omega) rfl ⟨by decide, Nat.le_refl _, by decide, by decide, by decide⟩ (Nat.le_of_ble_eq_true rfl) rfl (o_who hw hz hS hC (r := r) (by omega) (own_F hS hC hR hr) ?_)
      rw [hm]
      refine go_wial (y := mX11_score) (pc := 30) (r := 5) (k := m) dX11_score_30 hw (by decide) rfl hz rfl (by omega) (by decide) (fun r30 => ?_)
      refine go_top (b := s 4 m) (hB.2.2.2.2) (fun t30 => ?_)
      refine go_ineg (y := mX11_score) (pc := 31) dX11_score_31 ?_
      refine go_ireturn (y := mX11_score) (pc := 32) dX11_score_32 rfl ?_
      exact K _ (by unfold scr rnk; rw [hm, if_neg (by omega), if_neg (by omega), if_pos (by omega)]; show -(s 4 m) = 0 - s 4 m; omega)
  · skip
    refine go_aload_n (y := mX11_score) (pc := 5) dX11_score_5 rfl rfl ?_
    refine go_getR (y := mX11_score) (pc := 6) dX11_score_6 fl_X11_7 (ow_sh hw 0 (by decide)) rfl (by omega) ?_
    refine go_aload_n (y := mX11_score) (pc := 9) dX11_score_9 rfl rfl ?_
    refine go_iload_n (y := mX11_score) (pc := 10) dX11_score_10 rfl rfl ?_
    refine go_callV1 (y := mX11_score) (pc := 11) (y' := mX11_who) (kc2 := 0) (ks2 := 0) dX11_score_11 ml_X11_112 ok_X11_who (ow_sh hw 0 (by decide)) ⟨_, _, rfl⟩ (by omega) rfl ⟨by decide, Nat.le_refl _, by decide, by decide, by decide⟩ (Nat.le_of_ble_eq_true rfl) rfl (o_who hw hz hS hC (r := r) (by omega) (own_F hS hC hR hr) ?_)
    rw [hm]
    refine go_wial (y := mX11_score) (pc := 14) (r := 1) (k := m) dX11_score_14 hw (by decide) rfl hz rfl (by omega) (by decide) (fun r14 => ?_)
    refine go_top (b := S 2 m) (hB.1) (fun t14 => ?_)
    refine go_ireturn (y := mX11_score) (pc := 15) dX11_score_15 rfl ?_
    exact K _ (by unfold scr rnk; rw [hm, if_neg (by omega), if_pos (by omega)]; show S 2 m = 0 - -(S 2 m); omega)
