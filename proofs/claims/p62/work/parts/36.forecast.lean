/-! FORECASTS -/
theorem fnd_cong {p q : Nat → Prop} [DecidablePred p] [DecidablePred q] : ∀ {n : Nat}, (∀ k, k < n → (p k ↔ q k)) → fnd p n = fnd q n
  | 0, _ => rfl
  | n + 1, h => by
    have hn := h n (by omega)
    rw [fnd, fnd, fnd_cong (fun k hk => h k (by omega))]
    by_cases h1 : fnd q n = -1
    · rw [if_pos h1, if_pos h1]
      by_cases h2 : p n
      · rw [if_pos h2, if_pos (hn.mp h2)]
      · rw [if_neg h2, if_neg (fun w => h2 (hn.mpr w))]
    · rw [if_neg h1, if_neg h1]
theorem plc_eq {t s : Mem} {m : Int} (h : eqC t s) (h12 : s 11 0 ≤ 12) : plc t m = plc s m := by
  unfold plc
  rw [h.1.2.1]
  exact fnd_cong (fun k hk => by rw [(h.2.1 k (by omega)).2.2.2.1])
theorem pm1_5 {S s : Mem} : pm1 S s 5 0 = s 5 0 := by
  unfold pm1
  show (if _ then _ else _ : Mem) 5 0 = _
  split
  · unfold dry dry_k
    exact (if_neg (fun w => absurd w.1 (by decide))).trans (wr_na (by decide))
  · rw [wr_na (by decide)]
theorem pek_5 {S s : Mem} : ∀ k, (pek S s k).1 5 0 = s 5 0
  | 0 => rfl
  | k + 1 => by
    rw [pek]
    split
    · exact pek_5 k
    · split
      · show esp S _ k 5 0 = _
        rw [esp_o (by decide), wr_na (by decide)]
        exact pek_5 k
      · show wr (pek S s k).1 19 k (wp ((pek S s k).1 19 k - 1)) 5 0 = _
        rw [wr_na (by decide)]
        exact pek_5 k
theorem pfk_5 {S s : Mem} : ∀ k, pfk S s k 5 0 = s 5 0
  | 0 => rfl
  | k + 1 => by
    rw [pfk]
    split
    · rw [spk_o (by decide)]
      exact pfk_5 k
    · exact pfk_5 k
theorem pmn_5 {S s : Mem} : pmn S s 5 0 = s 5 0 := by
  unfold pmn
  rw [pfk_5, pek_5, pm1_5]
theorem pms_5 {S s : Mem} : ∀ n, (pms S s n).1 5 0 = s 5 0
  | 0 => rfl
  | n + 1 => by
    show pmn S (pms S s n).1 5 0 = _
    rw [pmn_5, pms_5 n]
theorem obo_obs {S s : Mem} {k : Nat} (h : (k : Int) < s 5 0) : obo S s k = obs S s k := by
  unfold obo
  by_cases g : opn s k
  · rw [if_pos g, Int.toNat_natCast]
  · rw [if_neg g]
    unfold obs
    rw [if_pos (fun w => g ⟨by omega, h, by rw [Int.toNat_natCast]; exact w⟩)]
def mvk (S s : Mem) (k : Nat) : Nat → Nat → Int
  | 0, _ => -1
  | j + 1, p => if obo S (pms S s p).1 k = 0 then (p : Int) else mvk S s k j (p + 1)
def msk (S s : Mem) (m : Int) : Nat → Nat → Int
  | 0, _ => -1
  | j + 1, p => if plc (pms S s p).1 m = -1 then (p : Int) else msk S s m j (p + 1)
set_option maxRecDepth 8000 in
set_option maxHeartbeats 4000000 in
theorem g_latherAfter {σ μ : Mem} {q m : Int} (hq : rng q) (hm : rng m) (hS : wfS (su μ)) (hC : wfC (su μ) σ) {Q : Option Value → Mem → Prop} {X : String → Mem → Prop} (K : ∀ k n : Nat, q = k → m = n → (k : Int) < σ 5 0 → n ≤ 300 → ∀ τ τ', eqC τ σ → Q (some (.int (iI ((pms (su μ) τ n).1 8 k)))) (put 20 σ (put 41 τ' μ))) (K2 : ¬ (0 ≤ q ∧ q < σ 5 0) → X "java/lang/IndexOutOfBoundsException" (put 20 σ μ)) (K3 : 0 ≤ q ∧ q < σ 5 0 → ¬ (0 ≤ m ∧ m ≤ 300) → X "java/lang/IllegalArgumentException" (put 20 σ μ)) : mt 276 7 2 12 mX10_latherAfter [.ref 0, .int (iI q), .int (iI m)] Q X (put 20 σ μ) := by
  show go 276 7 2 12 mX10_latherAfter Q X 0 [.ref 0, .int (iI q), .int (iI m), .null] [] _
  have h16 := hC.1.2.1
  by_cases g : 0 ≤ q ∧ q < σ 5 0
  · obtain ⟨k, rfl⟩ := Int.eq_ofNat_of_zero_le g.1
    have gk := g.2
    by_cases g' : 0 ≤ m ∧ m ≤ 300
    · obtain ⟨n, rfl⟩ := Int.eq_ofNat_of_zero_le g'.1
      have gn := g'.2
      have eS : su (put 20 σ μ) = su μ := su_put (by decide)
      have hSM : wfS (su (put 20 σ μ)) := by rw [eS]; exact hS
      have loop : ∀ τ, eqC τ σ → ∀ (j p : Nat), p + j = n → go 276 7 0 0 mX10_latherAfter Q X 40 [.ref 0, .int (iI (k : Nat)), .int (iI (n : Nat)), .int (iI (p : Nat))] [] (put 41 (pms (su (put 20 σ μ)) τ p).1 (put 20 σ μ)) := by
        intro τ hτ j
        have hτC : wfC (su (put 20 σ μ)) τ := by rw [eS]; exact wf_eq hS hC hτ
        induction j using Nat.strongRecOn with
        | _ j ih =>
          intro p hp
          have ih' := ih (j - 1)
          refine go_iload_n (y := mX10_latherAfter) (pc := 40) dX10_latherAfter_40 rfl rfl ?_
          refine go_iload_n (y := mX10_latherAfter) (pc := 41) dX10_latherAfter_41 rfl rfl ?_
          refine go_icmp_ge (y := mX10_latherAfter) (pc := 42) (tgt := 59) dX10_latherAfter_42 (by decide) (by omega) (by omega) (fun h42 => ?_) (fun h42 => ?_)
          · skip
            refine go_aload_n (y := mX10_latherAfter) (pc := 59) dX10_latherAfter_59 rfl rfl ?_
            refine go_getR (y := mX10_latherAfter) (pc := 60) dX10_latherAfter_60 fl_X10_51 rfl rfl (by decide) ?_
            refine go_getR (y := mX10_latherAfter) (pc := 63) dX10_latherAfter_63 fl_X10_191 (ch_sh h41 0 (by decide)) rfl (ch_z (r := 0) h41 (by decide)) ?_
            refine go_getR (y := mX10_latherAfter) (pc := 66) dX10_latherAfter_66 fl_X10_225 (ch_sh h41 5 (by decide)) rfl (ch_z (r := 5) h41 (by decide)) ?_
            refine go_iload_n (y := mX10_latherAfter) (pc := 69) dX10_latherAfter_69 rfl rfl ?_
            refine go_cial (y := mX10_latherAfter) (pc := 70) (r := 8) (k := k) dX10_latherAfter_70 h41 (by decide) rfl (by decide) rfl (by omega) (by decide) (fun r70 => ?_)
            refine go_ireturn (y := mX10_latherAfter) (pc := 71) dX10_latherAfter_71 rfl ?_
            have e : p = n := by omega
            subst e
            rw [put_c (by decide), eS]
            exact K k p rfl rfl gk (by omega) τ _ hτ
          · skip
            refine go_aload_n (y := mX10_latherAfter) (pc := 45) dX10_latherAfter_45 rfl rfl ?_
            refine go_getR (y := mX10_latherAfter) (pc := 46) dX10_latherAfter_46 fl_X10_51 rfl rfl (by decide) ?_
            refine go_callV0 (y := mX10_latherAfter) (pc := 49) (y' := mX1_passMinute) (kc2 := 0) (ks2 := 0) dX10_latherAfter_49 ml_X10_314 ok_X1_passMinute (ch_sh h41 0 (by decide)) ⟨_, _, rfl⟩ (ch_z (r := 0) h41 (by decide)) trivial (by decide) (Nat.le_of_ble_eq_true rfl) rfl (c_passMinute h41 hSM (wf_pms hSM hτC p).1 ?_)
            refine go_pop (y := mX10_latherAfter) (pc := 52) dX10_latherAfter_52 rfl ?_
            refine go_iinc (y := mX10_latherAfter) (pc := 53) dX10_latherAfter_53 rfl (by decide) ?_
            refine go_goto (y := mX10_latherAfter) (pc := 56) (tgt := 40) dX10_latherAfter_56 (by decide) ?_
            exact ih' (by omega) (p + 1) (by omega)
      refine go_aload_n (y := mX10_latherAfter) (pc := 0) dX10_latherAfter_0 rfl rfl ?_
      refine go_iload_n (y := mX10_latherAfter) (pc := 1) dX10_latherAfter_1 rfl rfl ?_
      refine go_callV1 (y := mX10_latherAfter) (pc := 2) (y' := mX10_requireMotion) (kc2 := 0) (ks2 := 0) dX10_latherAfter_2 ml_X10_188 ok_X10_requireMotion (show shp 0 = _ from rfl) ⟨_, _, rfl⟩ (by decide) rfl (by decide) (Nat.le_of_ble_eq_true rfl) rfl (g_requireMotion (by omega) (fun _ => ?_) (fun h9 => absurd g h9))
      refine go_iload_n (y := mX10_latherAfter) (pc := 5) dX10_latherAfter_5 rfl rfl ?_
      refine go_if_lt (y := mX10_latherAfter) (pc := 6) (tgt := 16) dX10_latherAfter_6 (by decide) (by omega) (fun h6 => ?_) (fun h6 => ?_)
      · skip
        exact absurd h6 (by omega)
      · skip
        refine go_iload_n (y := mX10_latherAfter) (pc := 9) dX10_latherAfter_9 rfl rfl ?_
        refine go_sipush (y := mX10_latherAfter) (pc := 10) dX10_latherAfter_10 (by decide) ?_
        refine go_icmp_le (y := mX10_latherAfter) (pc := 13) (tgt := 27) dX10_latherAfter_13 (by decide) (by omega) (by omega) (fun h13 => ?_) (fun h13 => ?_)
        · skip
          refine go_aload_n (y := mX10_latherAfter) (pc := 27) dX10_latherAfter_27 rfl rfl ?_
          refine go_getR (y := mX10_latherAfter) (pc := 28) dX10_latherAfter_28 fl_X10_51 rfl rfl (by decide) ?_
          refine go_aload_n (y := mX10_latherAfter) (pc := 31) dX10_latherAfter_31 rfl rfl ?_
          refine go_getR (y := mX10_latherAfter) (pc := 32) dX10_latherAfter_32 fl_X10_47 rfl rfl (by decide) ?_
          refine go_mem (put_v 41 _).symm ?_
          refine go_callV1 (y := mX10_latherAfter) (pc := 35) (y' := mX1_copyFrom) (kc2 := 0) (ks2 := 0) dX10_latherAfter_35 ml_X10_312 ok_X1_copyFrom (show shp 41 = _ from rfl) ⟨_, _, rfl⟩ (by decide) rfl (by decide) (Nat.le_of_ble_eq_true rfl) rfl (c_copyFrom h41 h20 (by decide) ?_)
          refine go_iconst (y := mX10_latherAfter) (pc := 38) dX10_latherAfter_38 ?_
          refine go_istore_n (y := mX10_latherAfter) (pc := 39) dX10_latherAfter_39 rfl (by decide) ?_
          exact loop _ (eqC_tr (eq_cpC _ _) eq_vput) n 0 (by omega)
        · skip
          exact absurd h13 (by omega)
    · have J16 : go 276 7 1 6 mX10_latherAfter Q X 16 [.ref 0, .int (iI (k : Nat)), .int (iI m), .null] [] (put 20 σ μ) := by
        refine go_throwW (y := mX10_latherAfter) (pc := 16) (i := 27) th_A rfl dX10_latherAfter_16 dX10_latherAfter_19 dX10_latherAfter_20 dX10_latherAfter_23 dX10_latherAfter_26 (by decide) (Nat.le_of_ble_eq_true rfl) rfl ?_
        exact K3 g g'
      refine go_aload_n (y := mX10_latherAfter) (pc := 0) dX10_latherAfter_0 rfl rfl ?_
      refine go_iload_n (y := mX10_latherAfter) (pc := 1) dX10_latherAfter_1 rfl rfl ?_
      refine go_callV1 (y := mX10_latherAfter) (pc := 2) (y' := mX10_requireMotion) (kc2 := 1) (ks2 := 6) dX10_latherAfter_2 ml_X10_188 ok_X10_requireMotion (show shp 0 = _ from rfl) ⟨_, _, rfl⟩ (by decide) rfl (by decide) (Nat.le_of_ble_eq_true rfl) rfl (g_requireMotion (by omega) (fun _ => ?_) (fun h9 => absurd g h9))
      refine go_iload_n (y := mX10_latherAfter) (pc := 5) dX10_latherAfter_5 rfl rfl ?_
      refine go_if_lt (y := mX10_latherAfter) (pc := 6) (tgt := 16) dX10_latherAfter_6 (by decide) (by omega) (fun h6 => ?_) (fun h6 => ?_)
      · skip
        exact J16
      · skip
        refine go_iload_n (y := mX10_latherAfter) (pc := 9) dX10_latherAfter_9 rfl rfl ?_
        refine go_sipush (y := mX10_latherAfter) (pc := 10) dX10_latherAfter_10 (by decide) ?_
        refine go_icmp_le (y := mX10_latherAfter) (pc := 13) (tgt := 27) dX10_latherAfter_13 (by decide) (by omega) (by omega) (fun h13 => ?_) (fun h13 => ?_)
        · skip
          exact absurd h13 (by omega)
        · skip
          exact J16
  · skip
    refine go_aload_n (y := mX10_latherAfter) (pc := 0) dX10_latherAfter_0 rfl rfl ?_
    refine go_iload_n (y := mX10_latherAfter) (pc := 1) dX10_latherAfter_1 rfl rfl ?_
    refine go_callV1 (y := mX10_latherAfter) (pc := 2) (y' := mX10_requireMotion) (kc2 := 0) (ks2 := 0) dX10_latherAfter_2 ml_X10_188 ok_X10_requireMotion (show shp 0 = _ from rfl) ⟨_, _, rfl⟩ (by decide) rfl (by decide) (Nat.le_of_ble_eq_true rfl) rfl (g_requireMotion (by omega) (fun h9 => absurd h9 g) (fun _ => K2 g))
set_option maxRecDepth 8000 in
set_option maxHeartbeats 4000000 in
theorem g_minutesUntilVote {σ μ : Mem} {q : Int} (hq : rng q) (hS : wfS (su μ)) (hC : wfC (su μ) σ) {Q : Option Value → Mem → Prop} {X : String → Mem → Prop} (K : ∀ k : Nat, q = k → (k : Int) < σ 5 0 → ∀ τ τ', eqC τ σ → Q (some (.int (iI (mvk (su μ) τ k 301 0)))) (put 20 σ (put 41 τ' μ))) (K2 : ¬ (0 ≤ q ∧ q < σ 5 0) → X "java/lang/IndexOutOfBoundsException" (put 20 σ μ)) : mt 276 7 1 6 mX10_minutesUntilVote [.ref 0, .int (iI q)] Q X (put 20 σ μ) := by
  show go 276 7 1 6 mX10_minutesUntilVote Q X 0 [.ref 0, .int (iI q), .null] [] _
  have h16 := hC.1.2.1
  by_cases g : 0 ≤ q ∧ q < σ 5 0
  · obtain ⟨k, rfl⟩ := Int.eq_ofNat_of_zero_le g.1
    have gk := g.2
    have eS : su (put 20 σ μ) = su μ := su_put (by decide)
    have hSM : wfS (su (put 20 σ μ)) := by rw [eS]; exact hS
    have loop : ∀ τ, eqC τ σ → ∀ (j p : Nat), p + j = 301 → (∀ τ', Q (some (.int (iI (mvk (su μ) τ k j p)))) (put 20 σ (put 41 τ' μ))) → go 276 7 0 0 mX10_minutesUntilVote Q X 18 [.ref 0, .int (iI (k : Nat)), .int (iI (p : Nat))] [] (put 41 (pms (su (put 20 σ μ)) τ p).1 (put 20 σ μ)) := by
      intro τ hτ j
      have hτC : wfC (su (put 20 σ μ)) τ := by rw [eS]; exact wf_eq hS hC hτ
      induction j with
      | zero =>
        intro p hp hQ
        refine go_iload_n (y := mX10_minutesUntilVote) (pc := 18) dX10_minutesUntilVote_18 rfl rfl ?_
        refine go_sipush (y := mX10_minutesUntilVote) (pc := 19) dX10_minutesUntilVote_19 (by decide) ?_
        refine go_icmp_gt (y := mX10_minutesUntilVote) (pc := 22) (tgt := 52) dX10_minutesUntilVote_22 (by decide) (by omega) (by omega) (fun h22 => ?_) (fun h22 => ?_)
        · skip
          refine go_iconst (y := mX10_minutesUntilVote) (pc := 52) dX10_minutesUntilVote_52 ?_
          refine go_ireturn (y := mX10_minutesUntilVote) (pc := 53) dX10_minutesUntilVote_53 rfl ?_
          rw [put_c (by decide)]
          exact hQ _
        · skip
          exact absurd h22 (by omega)
      | succ j ih =>
        intro p hp hQ
        have hw := (wf_pms hSM hτC p).1
        refine go_iload_n (y := mX10_minutesUntilVote) (pc := 18) dX10_minutesUntilVote_18 rfl rfl ?_
        refine go_sipush (y := mX10_minutesUntilVote) (pc := 19) dX10_minutesUntilVote_19 (by decide) ?_
        refine go_icmp_gt (y := mX10_minutesUntilVote) (pc := 22) (tgt := 52) dX10_minutesUntilVote_22 (by decide) (by omega) (by omega) (fun h22 => ?_) (fun h22 => ?_)
        · skip
          exact absurd h22 (by omega)
        · skip
          refine go_aload_n (y := mX10_minutesUntilVote) (pc := 25) dX10_minutesUntilVote_25 rfl rfl ?_
          refine go_getR (y := mX10_minutesUntilVote) (pc := 26) dX10_minutesUntilVote_26 fl_X10_51 rfl rfl (by decide) ?_
          refine go_iload_n (y := mX10_minutesUntilVote) (pc := 29) dX10_minutesUntilVote_29 rfl rfl ?_
          refine go_callV1 (y := mX10_minutesUntilVote) (pc := 30) (y' := mX1_obstacleTo) (kc2 := 0) (ks2 := 0) dX10_minutesUntilVote_30 ml_X10_234 ok_X1_obstacleTo (ch_sh h41 0 (by decide)) ⟨_, _, rfl⟩ (ch_z (r := 0) h41 (by decide)) rfl (by decide) (Nat.le_of_ble_eq_true rfl) rfl (c_obstacleTo h41 (by omega) hSM hw.1.2.1 (fun v30 e30 b30 => ?_))
          refine go_if_ne (y := mX10_minutesUntilVote) (pc := 33) (tgt := 38) dX10_minutesUntilVote_33 (by decide) (by omega) (fun h33 => ?_) (fun h33 => ?_)
          · skip
            refine go_aload_n (y := mX10_minutesUntilVote) (pc := 38) dX10_minutesUntilVote_38 rfl rfl ?_
            refine go_getR (y := mX10_minutesUntilVote) (pc := 39) dX10_minutesUntilVote_39 fl_X10_51 rfl rfl (by decide) ?_
            refine go_callV0 (y := mX10_minutesUntilVote) (pc := 42) (y' := mX1_passMinute) (kc2 := 0) (ks2 := 0) dX10_minutesUntilVote_42 ml_X10_314 ok_X1_passMinute (ch_sh h41 0 (by decide)) ⟨_, _, rfl⟩ (ch_z (r := 0) h41 (by decide)) trivial (by decide) (Nat.le_of_ble_eq_true rfl) rfl (c_passMinute h41 hSM hw ?_)
            refine go_pop (y := mX10_minutesUntilVote) (pc := 45) dX10_minutesUntilVote_45 rfl ?_
            refine go_iinc (y := mX10_minutesUntilVote) (pc := 46) dX10_minutesUntilVote_46 rfl (by decide) ?_
            refine go_goto (y := mX10_minutesUntilVote) (pc := 49) (tgt := 18) dX10_minutesUntilVote_49 (by decide) ?_
            refine ih (p + 1) (by omega) (fun τ' => ?_)
            have h9 := hQ τ'
            rw [mvk, if_neg (by rw [← eS, ← e30]; exact h33)] at h9
            exact h9
          · skip
            refine go_iload_n (y := mX10_minutesUntilVote) (pc := 36) dX10_minutesUntilVote_36 rfl rfl ?_
            refine go_ireturn (y := mX10_minutesUntilVote) (pc := 37) dX10_minutesUntilVote_37 rfl ?_
            have h9 := hQ (pms (su (put 20 σ μ)) τ p).1
            rw [mvk, if_pos (by rw [← eS, ← e30]; exact h33)] at h9
            rw [put_c (by decide)]
            exact h9
    refine go_aload_n (y := mX10_minutesUntilVote) (pc := 0) dX10_minutesUntilVote_0 rfl rfl ?_
    refine go_iload_n (y := mX10_minutesUntilVote) (pc := 1) dX10_minutesUntilVote_1 rfl rfl ?_
    refine go_callV1 (y := mX10_minutesUntilVote) (pc := 2) (y' := mX10_requireMotion) (kc2 := 0) (ks2 := 0) dX10_minutesUntilVote_2 ml_X10_188 ok_X10_requireMotion (show shp 0 = _ from rfl) ⟨_, _, rfl⟩ (by decide) rfl (by decide) (Nat.le_of_ble_eq_true rfl) rfl (g_requireMotion (by omega) (fun _ => ?_) (fun h9 => absurd g h9))
    refine go_aload_n (y := mX10_minutesUntilVote) (pc := 5) dX10_minutesUntilVote_5 rfl rfl ?_
    refine go_getR (y := mX10_minutesUntilVote) (pc := 6) dX10_minutesUntilVote_6 fl_X10_51 rfl rfl (by decide) ?_
    refine go_aload_n (y := mX10_minutesUntilVote) (pc := 9) dX10_minutesUntilVote_9 rfl rfl ?_
    refine go_getR (y := mX10_minutesUntilVote) (pc := 10) dX10_minutesUntilVote_10 fl_X10_47 rfl rfl (by decide) ?_
    refine go_mem (put_v 41 _).symm ?_
    refine go_callV1 (y := mX10_minutesUntilVote) (pc := 13) (y' := mX1_copyFrom) (kc2 := 0) (ks2 := 0) dX10_minutesUntilVote_13 ml_X10_312 ok_X1_copyFrom (show shp 41 = _ from rfl) ⟨_, _, rfl⟩ (by decide) rfl (by decide) (Nat.le_of_ble_eq_true rfl) rfl (c_copyFrom h41 h20 (by decide) ?_)
    refine go_iconst (y := mX10_minutesUntilVote) (pc := 16) dX10_minutesUntilVote_16 ?_
    refine go_istore_n (y := mX10_minutesUntilVote) (pc := 17) dX10_minutesUntilVote_17 rfl (by decide) ?_
    exact loop _ (eqC_tr (eq_cpC _ _) eq_vput) 301 0 (by omega) (fun τ' => K k rfl gk _ τ' (eqC_tr (eq_cpC _ _) eq_vput))
  · skip
    refine go_aload_n (y := mX10_minutesUntilVote) (pc := 0) dX10_minutesUntilVote_0 rfl rfl ?_
    refine go_iload_n (y := mX10_minutesUntilVote) (pc := 1) dX10_minutesUntilVote_1 rfl rfl ?_
    refine go_callV1 (y := mX10_minutesUntilVote) (pc := 2) (y' := mX10_requireMotion) (kc2 := 0) (ks2 := 0) dX10_minutesUntilVote_2 ml_X10_188 ok_X10_requireMotion (show shp 0 = _ from rfl) ⟨_, _, rfl⟩ (by decide) rfl (by decide) (Nat.le_of_ble_eq_true rfl) rfl (g_requireMotion (by omega) (fun h9 => absurd h9 g) (fun _ => K2 g))
set_option maxRecDepth 8000 in
set_option maxHeartbeats 4000000 in
theorem g_minutesUntilSpeech {σ μ : Mem} {m : Int} (hm : rng m) (hS : wfS (su μ)) (hC : wfC (su μ) σ) {Q : Option Value → Mem → Prop} {X : String → Mem → Prop} (K : ∀ k : Nat, m = k → (k : Int) < su μ 0 7 → plc σ k = -1 → Q (some (.int (iI (-1)))) (put 20 σ μ)) (K2 : ∀ k : Nat, m = k → (k : Int) < su μ 0 7 → plc σ k ≠ -1 → ∀ τ τ', eqC τ σ → Q (some (.int (iI (msk (su μ) τ k 300 1)))) (put 20 σ (put 41 τ' μ))) (K3 : ¬ (0 ≤ m ∧ m < su μ 0 7) → X "java/lang/IndexOutOfBoundsException" (put 20 σ μ)) : mt 276 7 1 6 mX10_minutesUntilSpeech [.ref 0, .int (iI m)] Q X (put 20 σ μ) := by
  show go 276 7 1 6 mX10_minutesUntilSpeech Q X 0 [.ref 0, .int (iI m), .null] [] _
  obtain ⟨n1, n12, c1, c4⟩ := wf_n hS
  obtain ⟨q0, q16, h11, h12⟩ := wf_r hS hC
  by_cases g : 0 ≤ m ∧ m < su μ 0 7
  · obtain ⟨k, rfl⟩ := Int.eq_ofNat_of_zero_le g.1
    have gk := g.2
    have eS : su (put 20 σ μ) = su μ := su_put (by decide)
    have hSM : wfS (su (put 20 σ μ)) := by rw [eS]; exact hS
    have loop : ∀ τ, eqC τ σ → ∀ (j p : Nat), p + j = 300 → (∀ τ', Q (some (.int (iI (msk (su μ) τ k j (p + 1))))) (put 20 σ (put 41 τ' μ))) → go 276 7 0 0 mX10_minutesUntilSpeech Q X 35 [.ref 0, .int (iI (k : Nat)), .int (iI (p + 1 : Nat))] [] (put 41 (pms (su (put 20 σ μ)) τ p).1 (put 20 σ μ)) := by
      intro τ hτ j
      have hτC : wfC (su (put 20 σ μ)) τ := by rw [eS]; exact wf_eq hS hC hτ
      induction j with
      | zero =>
        intro p hp hQ
        refine go_iload_n (y := mX10_minutesUntilSpeech) (pc := 35) dX10_minutesUntilSpeech_35 rfl rfl ?_
        refine go_sipush (y := mX10_minutesUntilSpeech) (pc := 36) dX10_minutesUntilSpeech_36 (by decide) ?_
        refine go_icmp_gt (y := mX10_minutesUntilSpeech) (pc := 39) (tgt := 73) dX10_minutesUntilSpeech_39 (by decide) (by omega) (by omega) (fun h39 => ?_) (fun h39 => ?_)
        · skip
          refine go_iconst (y := mX10_minutesUntilSpeech) (pc := 73) dX10_minutesUntilSpeech_73 ?_
          refine go_ireturn (y := mX10_minutesUntilSpeech) (pc := 74) dX10_minutesUntilSpeech_74 rfl ?_
          rw [put_c (by decide)]
          exact hQ _
        · skip
          exact absurd h39 (by omega)
      | succ j ih =>
        intro p hp hQ
        have hw := (wf_pms hSM hτC p).1
        have hw2 := wf_r hSM (wf_pms hSM hτC (p + 1)).1
        refine go_iload_n (y := mX10_minutesUntilSpeech) (pc := 35) dX10_minutesUntilSpeech_35 rfl rfl ?_
        refine go_sipush (y := mX10_minutesUntilSpeech) (pc := 36) dX10_minutesUntilSpeech_36 (by decide) ?_
        refine go_icmp_gt (y := mX10_minutesUntilSpeech) (pc := 39) (tgt := 73) dX10_minutesUntilSpeech_39 (by decide) (by omega) (by omega) (fun h39 => ?_) (fun h39 => ?_)
        · skip
          exact absurd h39 (by omega)
        · skip
          refine go_aload_n (y := mX10_minutesUntilSpeech) (pc := 42) dX10_minutesUntilSpeech_42 rfl rfl ?_
          refine go_getR (y := mX10_minutesUntilSpeech) (pc := 43) dX10_minutesUntilSpeech_43 fl_X10_51 rfl rfl (by decide) ?_
          refine go_callV0 (y := mX10_minutesUntilSpeech) (pc := 46) (y' := mX1_passMinute) (kc2 := 0) (ks2 := 0) dX10_minutesUntilSpeech_46 ml_X10_314 ok_X1_passMinute (ch_sh h41 0 (by decide)) ⟨_, _, rfl⟩ (ch_z (r := 0) h41 (by decide)) trivial (by decide) (Nat.le_of_ble_eq_true rfl) rfl (c_passMinute h41 hSM hw ?_)
          refine go_pop (y := mX10_minutesUntilSpeech) (pc := 49) dX10_minutesUntilSpeech_49 rfl ?_
          refine go_aload_n (y := mX10_minutesUntilSpeech) (pc := 50) dX10_minutesUntilSpeech_50 rfl rfl ?_
          refine go_getR (y := mX10_minutesUntilSpeech) (pc := 51) dX10_minutesUntilSpeech_51 fl_X10_51 rfl rfl (by decide) ?_
          refine go_getR (y := mX10_minutesUntilSpeech) (pc := 54) dX10_minutesUntilSpeech_54 fl_X10_209 (ch_sh h41 0 (by decide)) rfl (ch_z (r := 0) h41 (by decide)) ?_
          refine go_iload_n (y := mX10_minutesUntilSpeech) (pc := 57) dX10_minutesUntilSpeech_57 rfl rfl ?_
          refine go_callV1 (y := mX10_minutesUntilSpeech) (pc := 58) (y' := mX5_placeOf) (kc2 := 0) (ks2 := 0) dX10_minutesUntilSpeech_58 ml_X10_213 ok_X5_placeOf (ch_sh h41 11 (by decide)) ⟨_, _, rfl⟩ (ch_z (r := 11) h41 (by decide)) rfl (by decide) (Nat.le_of_ble_eq_true rfl) rfl (c_placeOf h41 (by omega) hw2.2.2.1 hw2.2.2.2 (fun v58 e58 b58 => ?_))
          refine go_iconst (y := mX10_minutesUntilSpeech) (pc := 61) dX10_minutesUntilSpeech_61 ?_
          refine go_icmp_ne (y := mX10_minutesUntilSpeech) (pc := 62) (tgt := 67) dX10_minutesUntilSpeech_62 (by decide) (by omega) (by omega) (fun h62 => ?_) (fun h62 => ?_)
          · skip
            refine go_iinc (y := mX10_minutesUntilSpeech) (pc := 67) dX10_minutesUntilSpeech_67 rfl (by decide) ?_
            refine go_goto (y := mX10_minutesUntilSpeech) (pc := 70) (tgt := 35) dX10_minutesUntilSpeech_70 (by decide) ?_
            refine ih (p + 1) (by omega) (fun τ' => ?_)
            have h9 := hQ τ'
            rw [msk, if_neg (by rw [← eS]; intro w; exact h62 (e58.trans w))] at h9
            exact h9
          · skip
            refine go_iload_n (y := mX10_minutesUntilSpeech) (pc := 65) dX10_minutesUntilSpeech_65 rfl rfl ?_
            refine go_ireturn (y := mX10_minutesUntilSpeech) (pc := 66) dX10_minutesUntilSpeech_66 rfl ?_
            have h9 := hQ (pms (su (put 20 σ μ)) τ (p + 1)).1
            rw [msk, if_pos (by rw [← eS]; exact e58.symm.trans h62)] at h9
            rw [put_c (by decide)]
            exact h9
    refine go_aload_n (y := mX10_minutesUntilSpeech) (pc := 0) dX10_minutesUntilSpeech_0 rfl rfl ?_
    refine go_iload_n (y := mX10_minutesUntilSpeech) (pc := 1) dX10_minutesUntilSpeech_1 rfl rfl ?_
    refine go_callV1 (y := mX10_minutesUntilSpeech) (pc := 2) (y' := mX10_requireMember) (kc2 := 0) (ks2 := 0) dX10_minutesUntilSpeech_2 ml_X10_166 ok_X10_requireMember (show shp 0 = _ from rfl) ⟨_, _, rfl⟩ (by decide) rfl (by decide) (Nat.le_of_ble_eq_true rfl) rfl (g_requireMember (by omega) (fun _ => ?_) (fun h9 => absurd g h9))
    refine go_aload_n (y := mX10_minutesUntilSpeech) (pc := 5) dX10_minutesUntilSpeech_5 rfl rfl ?_
    refine go_getR (y := mX10_minutesUntilSpeech) (pc := 6) dX10_minutesUntilSpeech_6 fl_X10_47 rfl rfl (by decide) ?_
    refine go_getR (y := mX10_minutesUntilSpeech) (pc := 9) dX10_minutesUntilSpeech_9 fl_X10_209 (ch_sh h20 0 (by decide)) rfl (ch_z (r := 0) h20 (by decide)) ?_
    refine go_iload_n (y := mX10_minutesUntilSpeech) (pc := 12) dX10_minutesUntilSpeech_12 rfl rfl ?_
    refine go_callV1 (y := mX10_minutesUntilSpeech) (pc := 13) (y' := mX5_placeOf) (kc2 := 0) (ks2 := 0) dX10_minutesUntilSpeech_13 ml_X10_213 ok_X5_placeOf (ch_sh h20 11 (by decide)) ⟨_, _, rfl⟩ (ch_z (r := 11) h20 (by decide)) rfl (by decide) (Nat.le_of_ble_eq_true rfl) rfl (c_placeOf h20 (by omega) h11 h12 (fun v13 e13 b13 => ?_))
    refine go_iconst (y := mX10_minutesUntilSpeech) (pc := 16) dX10_minutesUntilSpeech_16 ?_
    refine go_icmp_ne (y := mX10_minutesUntilSpeech) (pc := 17) (tgt := 22) dX10_minutesUntilSpeech_17 (by decide) (by omega) (by omega) (fun h17 => ?_) (fun h17 => ?_)
    · skip
      refine go_aload_n (y := mX10_minutesUntilSpeech) (pc := 22) dX10_minutesUntilSpeech_22 rfl rfl ?_
      refine go_getR (y := mX10_minutesUntilSpeech) (pc := 23) dX10_minutesUntilSpeech_23 fl_X10_51 rfl rfl (by decide) ?_
      refine go_aload_n (y := mX10_minutesUntilSpeech) (pc := 26) dX10_minutesUntilSpeech_26 rfl rfl ?_
      refine go_getR (y := mX10_minutesUntilSpeech) (pc := 27) dX10_minutesUntilSpeech_27 fl_X10_47 rfl rfl (by decide) ?_
      refine go_mem (put_v 41 _).symm ?_
      refine go_callV1 (y := mX10_minutesUntilSpeech) (pc := 30) (y' := mX1_copyFrom) (kc2 := 0) (ks2 := 0) dX10_minutesUntilSpeech_30 ml_X10_312 ok_X1_copyFrom (show shp 41 = _ from rfl) ⟨_, _, rfl⟩ (by decide) rfl (by decide) (Nat.le_of_ble_eq_true rfl) rfl (c_copyFrom h41 h20 (by decide) ?_)
      refine go_iconst (y := mX10_minutesUntilSpeech) (pc := 33) dX10_minutesUntilSpeech_33 ?_
      refine go_istore_n (y := mX10_minutesUntilSpeech) (pc := 34) dX10_minutesUntilSpeech_34 rfl (by decide) ?_
      exact loop _ (eqC_tr (eq_cpC _ _) eq_vput) 300 0 (by omega) (fun τ' => K2 k rfl gk (fun w => h17 (e13.trans w)) _ τ' (eqC_tr (eq_cpC _ _) eq_vput))
    · skip
      refine go_iconst (y := mX10_minutesUntilSpeech) (pc := 20) dX10_minutesUntilSpeech_20 ?_
      refine go_ireturn (y := mX10_minutesUntilSpeech) (pc := 21) dX10_minutesUntilSpeech_21 rfl ?_
      exact K k rfl gk (e13.symm.trans h17)
  · skip
    refine go_aload_n (y := mX10_minutesUntilSpeech) (pc := 0) dX10_minutesUntilSpeech_0 rfl rfl ?_
    refine go_iload_n (y := mX10_minutesUntilSpeech) (pc := 1) dX10_minutesUntilSpeech_1 rfl rfl ?_
    refine go_callV1 (y := mX10_minutesUntilSpeech) (pc := 2) (y' := mX10_requireMember) (kc2 := 0) (ks2 := 0) dX10_minutesUntilSpeech_2 ml_X10_166 ok_X10_requireMember (show shp 0 = _ from rfl) ⟨_, _, rfl⟩ (by decide) rfl (by decide) (Nat.le_of_ble_eq_true rfl) rfl (g_requireMember (by omega) (fun h9 => absurd h9 g) (fun _ => K3 g))
