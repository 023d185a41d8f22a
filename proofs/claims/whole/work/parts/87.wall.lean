/-! THE CLASS WRITES ALL CHAIRS, ALL REQUESTS -/
section WAll
variable {σ μ : Mem}
set_option maxRecDepth 8000 in
set_option maxHeartbeats 4000000 in
theorem g_writeChairs (hS : wfS (su μ)) (hC : wfC (su μ) σ) (hN : ∀ m : Nat, (m : Int) < su μ 0 7 → isn 6 (su μ 1 m)) (h3 : μ 5003 0 = 0) (hf : 0 ≤ μ 5000 0 ∧ μ 5000 0 ≤ μ 5002 0) (hch : chn (μ 5002 0)) {Q : Option Value → Mem → Prop} {X : String → Mem → Prop} (K : ∀ μ', OL (wChs (su μ) σ (su μ 0 0).toNat) μ' → eqO μ' μ → chn (μ' 5002 0) → μ' 5000 0 ≤ μ' 5002 0 → Q (some (.int (iI ((wChs (su μ) σ (su μ 0 0).toNat).length : Nat)))) (put 20 σ μ')) : mt 276 9 3 246 mX10_writeChairs [.ref 0] Q X (put 20 σ μ) := by
  show go 276 9 3 246 mX10_writeChairs Q X 0 [.ref 0, .null] [] _
  obtain ⟨n1, n12, c1, c4⟩ := wf_n hS
  obtain ⟨q0, q16, r0, r12⟩ := wf_r hS hC
  obtain ⟨n, en⟩ : ∃ n, n = (su μ 0 0).toNat := ⟨_, rfl⟩
  rw [← en] at K
  have loop : ∀ (t k : Nat) (μ1 : Mem) (kc ks : Nat), k + t = n → Bnd (wChs (su μ) σ k) 142 kc ks μ1 → eqO μ1 μ → go 276 9 kc ks mX10_writeChairs Q X 10 [.ref 0, .int (iI (k : Nat))] [] (put 20 σ μ1) := by
    intro t
    induction t with
    | zero =>
      intro k μ1 kc ks hk h1 h2
      refine go_iload_n (y := mX10_writeChairs) (pc := 10) dX10_writeChairs_10 rfl rfl ?_
      refine go_aload_n (y := mX10_writeChairs) (pc := 11) dX10_writeChairs_11 rfl rfl ?_
      refine go_getR (y := mX10_writeChairs) (pc := 12) dX10_writeChairs_12 fl_X10_35 rfl rfl (by decide) ?_
      refine go_sget (y := mX10_writeChairs) (pc := 15) (r := 0) dX10_writeChairs_15 fl_X10_243 h20 (by decide) rfl rfl (by decide) (fun r15 => ?_)
      refine go_top (b := su μ 0 0) ((by rw [su_eqO h2])) (fun t15 => ?_)
      refine go_icmp_ge (y := mX10_writeChairs) (pc := 18) (tgt := 46) dX10_writeChairs_18 (by decide) (by omega) (by omega) (fun h18 => ?_) (fun h18 => ?_)
      · skip
        refine go_aload_n (y := mX10_writeChairs) (pc := 46) dX10_writeChairs_46 rfl rfl ?_
        refine go_getR (y := mX10_writeChairs) (pc := 47) dX10_writeChairs_47 fl_X10_72 rfl rfl (by decide) ?_
        refine go_callO (y := mX10_writeChairs) (pc := 50) (y' := mJ4_length_8abf5) (as := []) (kc2 := kc) (ks2 := ks) dX10_writeChairs_50 rfl ml_X10_372 ok2_J4_length_8abf5 se_J4_length_8abf5 (by decide) rfl (Nat.le_of_ble_eq_true rfl) (by intro v hv; simp only [List.mem_cons, List.not_mem_nil, or_false] at hv) (Nat.le_of_ble_eq_true rfl) (Nat.le_refl _) (by decide) (Nat.le_of_eq (Nat.zero_add _)) (Nat.le_of_eq (Nat.zero_add _)) rfl (sb_len ?_)
        rw [show put 20 σ μ1 5000 0 = ((wChs (su μ) σ n).length : Nat) from (by rw [put_o (by decide), h1.1.1, show k = n by omega])]
        refine go_ireturn (y := mX10_writeChairs) (pc := 53) dX10_writeChairs_53 rfl ?_
        rw [show k = n by omega] at h1
        exact K μ1 h1.1 h2 h1.2.2.1 h1.2.2.2.2.2.2.2
      · skip
        exact absurd h18 (by omega)
    | succ t ih =>
      intro k μ1 kc ks hk h1 h2
      have hL := wChs_le (su μ) σ (k + 1)
      have eW : wChs (su μ) σ (k + 1) = wChs (su μ) σ k ++ (if 0 < k then [32] else []) ++ wCh (su μ) σ k := by
        rw [wChs]
      have hL2 : (((wChs (su μ) σ k ++ (if 0 < k then [32] else []) ++ wCh (su μ) σ k).length : Nat) : Int) ≤ 142 := by
        rw [← eW]
        omega
      have JJ : ∀ (μ2 : Mem) (kc3 ks3 : Nat), Bnd (wChs (su μ) σ k ++ (if 0 < k then [32] else [])) 142 kc3 ks3 μ2 → eqO μ2 μ → go 276 9 kc3 ks3 mX10_writeChairs Q X 35 [.ref 0, .int (iI (k : Nat))] [] (put 20 σ μ2) := by
        intro μ2 kc3 ks3 g1 g2
        have es : su μ2 = su μ := su_eqO g2
        obtain ⟨kc1, ks1, kc2, ks2, u1, u2, u3, u4, u5, u6⟩ := bud (w := wCh (su μ) σ k) g1 hL2
        have hc9 := g1.2.2.1
        obtain ⟨d1, d2, d3⟩ := cpf_c (n := ((wChs (su μ) σ k ++ (if 0 < k then [32] else []) ++ wCh (su μ) σ k).length : Nat)) hc9 (by omega)
        refine go_aload_n (y := mX10_writeChairs) (pc := 35) dX10_writeChairs_35 rfl rfl ?_
        refine go_iload_n (y := mX10_writeChairs) (pc := 36) dX10_writeChairs_36 rfl rfl ?_
        refine go_callV1 (y := mX10_writeChairs) (pc := 37) (y' := mX10_writeChair) (kc2 := kc2) (ks2 := ks2) dX10_writeChairs_37 ml_X10_369 ok_X10_writeChair (show shp 0 = _ from rfl) ⟨_, _, rfl⟩ (by decide) rfl ⟨by decide, by decide, by decide, u1, u2⟩ (Nat.le_of_ble_eq_true rfl) rfl (w_chair (kc := kc1) (ks := ks1) (by rw [es]; omega) (by rw [es]; exact hS) (by rw [es]; exact hC) (by rw [es]; exact hN) u5 (by rw [es]; exact d3) (by rw [es]) (fun μ37 o37 z37 x37 e37 => ?_))
        refine go_iinc (y := mX10_writeChairs) (pc := 40) dX10_writeChairs_40 rfl (by decide) ?_
        refine go_goto (y := mX10_writeChairs) (pc := 43) (tgt := 10) dX10_writeChairs_43 (by decide) ?_
        rw [es, ← eW] at o37
        rw [← eW] at x37 u6
        exact ih (k + 1) μ37 kc2 ks2 (by omega) (u6 μ37 o37 z37 x37) (eqO_t e37 g2)
      refine go_iload_n (y := mX10_writeChairs) (pc := 10) dX10_writeChairs_10 rfl rfl ?_
      refine go_aload_n (y := mX10_writeChairs) (pc := 11) dX10_writeChairs_11 rfl rfl ?_
      refine go_getR (y := mX10_writeChairs) (pc := 12) dX10_writeChairs_12 fl_X10_35 rfl rfl (by decide) ?_
      refine go_sget (y := mX10_writeChairs) (pc := 15) (r := 0) dX10_writeChairs_15 fl_X10_243 h20 (by decide) rfl rfl (by decide) (fun r15 => ?_)
      refine go_top (b := su μ 0 0) ((by rw [su_eqO h2])) (fun t15 => ?_)
      refine go_icmp_ge (y := mX10_writeChairs) (pc := 18) (tgt := 46) dX10_writeChairs_18 (by decide) (by omega) (by omega) (fun h18 => ?_) (fun h18 => ?_)
      · skip
        exact absurd h18 (by omega)
      · skip
        refine go_iload_n (y := mX10_writeChairs) (pc := 21) dX10_writeChairs_21 rfl rfl ?_
        refine go_if_le (y := mX10_writeChairs) (pc := 22) (tgt := 35) dX10_writeChairs_22 (by decide) (by omega) (fun h22 => ?_) (fun h22 => ?_)
        · skip
          refine JJ μ1 kc ks ?_ h2
          rw [if_neg (show ¬ 0 < k by omega), List.append_nil]
          exact h1
        · skip
          refine go_aload_n (y := mX10_writeChairs) (pc := 25) dX10_writeChairs_25 rfl rfl ?_
          refine go_getR (y := mX10_writeChairs) (pc := 26) dX10_writeChairs_26 fl_X10_72 rfl rfl (by decide) ?_
          refine go_bipush (y := mX10_writeChairs) (pc := 29) dX10_writeChairs_29 (by decide) ?_
          refine go_wC (y := mX10_writeChairs) (pc := 31) dX10_writeChairs_31 ml_X10_365 (by decide) (by decide) (Nat.le_of_ble_eq_true rfl) rfl (by decide) h1 (by rw [if_pos (show 0 < k by omega)] at hL2; exact lenp hL2) (fun μ31 kc31 ks31 b31 e31 f31 => ?_)
          refine go_pop (y := mX10_writeChairs) (pc := 34) dX10_writeChairs_34 rfl ?_
          refine JJ μ31 kc31 ks31 ?_ (eqO_t e31 h2)
          rw [if_pos (show 0 < k by omega)]
          exact b31
  refine go_aload_n (y := mX10_writeChairs) (pc := 0) dX10_writeChairs_0 rfl rfl ?_
  refine go_getR (y := mX10_writeChairs) (pc := 1) dX10_writeChairs_1 fl_X10_72 rfl rfl (by decide) ?_
  refine go_iconst (y := mX10_writeChairs) (pc := 4) dX10_writeChairs_4 ?_
  refine go_callO (y := mX10_writeChairs) (pc := 5) (y' := mJ4_setLength_d00df) (as := [.int (iI 0)]) (kc2 := 3) (ks2 := 246) dX10_writeChairs_5 rfl ml_X10_362 ok2_J4_setLength_d00df se_J4_setLength_d00df (by decide) rfl (Nat.le_of_ble_eq_true rfl) (by intro v hv; simp only [List.mem_cons, List.not_mem_nil, or_false] at hv; rw [hv]; rfl) (Nat.le_of_ble_eq_true rfl) (Nat.le_refl _) (by decide) (by decide) (by decide) rfl (sb_setLen (by rw [put_o (by decide)]; exact h3) (by rw [put_o (by decide), put_o (by decide)]; exact hf) (by rw [put_o (by decide)]; exact hch) ?_)
  refine go_mem (put_wo (by decide)) ?_
  refine go_iconst (y := mX10_writeChairs) (pc := 8) dX10_writeChairs_8 ?_
  refine go_istore_n (y := mX10_writeChairs) (pc := 9) dX10_writeChairs_9 rfl (by decide) ?_
  refine loop n 0 _ 3 246 (Nat.zero_add n) ⟨⟨wr_s _ _ _ _, fun j c hj => by cases hj⟩, ?_, ?_, Or.inr (Or.inr (Or.inr rfl)), ?_, ?_, ?_, ?_⟩ ⟨fun b j hb => wr_na (by omega), ?_⟩
  · rw [wr_na (by decide)]; exact h3
  · rw [wr_na (by decide)]; exact hch
  · rw [wr_na (by decide)]; exact (chn_b hch).2
  · rw [wr_na (by decide)]; exact Nat.le_trans (kB_le (Or.inl rfl) hch (chn_b hch).1).1 (by decide)
  · rw [wr_na (by decide)]; exact Nat.le_trans (kB_le (Or.inl rfl) hch (chn_b hch).1).2 (by decide)
  · rw [wr_s, wr_na (by decide)]; have := chn_b hch; omega
  · rw [wr_na (by decide)]; exact h3
set_option maxRecDepth 8000 in
set_option maxHeartbeats 4000000 in
theorem g_writeRequests (hS : wfS (su μ)) (hC : wfC (su μ) σ) (hN : ∀ m : Nat, (m : Int) < su μ 0 7 → isn 6 (su μ 1 m)) (h3 : μ 5003 0 = 0) (hf : 0 ≤ μ 5000 0 ∧ μ 5000 0 ≤ μ 5002 0) (hch : chn (μ 5002 0)) {Q : Option Value → Mem → Prop} {X : String → Mem → Prop} (K : ∀ μ', OL (wRqs (su μ) σ (σ 11 0).toNat) μ' → eqO μ' μ → chn (μ' 5002 0) → μ' 5000 0 ≤ μ' 5002 0 → Q (some (.int (iI ((wRqs (su μ) σ (σ 11 0).toNat).length : Nat)))) (put 20 σ μ')) : mt 276 9 3 246 mX10_writeRequests [.ref 0] Q X (put 20 σ μ) := by
  show go 276 9 3 246 mX10_writeRequests Q X 0 [.ref 0, .null, .null] [] _
  obtain ⟨n1, n12, c1, c4⟩ := wf_n hS
  obtain ⟨q0, q16, r0, r12⟩ := wf_r hS hC
  obtain ⟨n, en⟩ : ∃ n, n = (σ 11 0).toNat := ⟨_, rfl⟩
  rw [← en] at K
  have loop : ∀ (t k : Nat) (μ1 : Mem) (kc ks : Nat), k + t = n → Bnd (wRqs (su μ) σ k) 142 kc ks μ1 → eqO μ1 μ → go 276 9 kc ks mX10_writeRequests Q X 18 [.ref 0, .ref 31, .int (iI (k : Nat))] [] (put 20 σ μ1) := by
    intro t
    induction t with
    | zero =>
      intro k μ1 kc ks hk h1 h2
      refine go_iload_n (y := mX10_writeRequests) (pc := 18) dX10_writeRequests_18 rfl rfl ?_
      refine go_aload_n (y := mX10_writeRequests) (pc := 19) dX10_writeRequests_19 rfl rfl ?_
      refine go_cget (y := mX10_writeRequests) (pc := 20) (r := 11) dX10_writeRequests_20 fl_X10_255 h20 (by decide) rfl rfl (by decide) (fun r20 => ?_)
      refine go_top (b := σ 11 0) (rfl) (fun t20 => ?_)
      refine go_icmp_ge (y := mX10_writeRequests) (pc := 23) (tgt := 68) dX10_writeRequests_23 (by decide) (by omega) (by omega) (fun h23 => ?_) (fun h23 => ?_)
      · skip
        refine go_aload_n (y := mX10_writeRequests) (pc := 68) dX10_writeRequests_68 rfl rfl ?_
        refine go_getR (y := mX10_writeRequests) (pc := 69) dX10_writeRequests_69 fl_X10_72 rfl rfl (by decide) ?_
        refine go_callO (y := mX10_writeRequests) (pc := 72) (y' := mJ4_length_8abf5) (as := []) (kc2 := kc) (ks2 := ks) dX10_writeRequests_72 rfl ml_X10_372 ok2_J4_length_8abf5 se_J4_length_8abf5 (by decide) rfl (Nat.le_of_ble_eq_true rfl) (by intro v hv; simp only [List.mem_cons, List.not_mem_nil, or_false] at hv) (Nat.le_of_ble_eq_true rfl) (Nat.le_refl _) (by decide) (Nat.le_of_eq (Nat.zero_add _)) (Nat.le_of_eq (Nat.zero_add _)) rfl (sb_len ?_)
        rw [show put 20 σ μ1 5000 0 = ((wRqs (su μ) σ n).length : Nat) from (by rw [put_o (by decide), h1.1.1, show k = n by omega])]
        refine go_ireturn (y := mX10_writeRequests) (pc := 75) dX10_writeRequests_75 rfl ?_
        rw [show k = n by omega] at h1
        exact K μ1 h1.1 h2 h1.2.2.1 h1.2.2.2.2.2.2.2
      · skip
        exact absurd h23 (by omega)
    | succ t ih =>
      intro k μ1 kc ks hk h1 h2
      have hkR : (k : Int) < σ 11 0 := by omega
      have hR := hC.2.2.2.1 k hkR
      obtain ⟨m, em⟩ := Int.eq_ofNat_of_zero_le hR.1
      obtain ⟨q, eq⟩ := Int.eq_ofNat_of_zero_le hR.2.2.1
      have hL := wRqs_le (su μ) σ (k + 1)
      have eW : wRqs (su μ) σ (k + 1) = wRqs (su μ) σ k ++ (if 0 < k then [44] else []) ++ wSp (su μ) m (σ 14 k) q := by
        rw [wRqs, em, eq, Int.toNat_natCast, Int.toNat_natCast]
      have hL2 : (((wRqs (su μ) σ k ++ (if 0 < k then [44] else []) ++ wSp (su μ) m (σ 14 k) q).length : Nat) : Int) ≤ 142 := by
        rw [← eW]
        omega
      have JJ : ∀ (μ2 : Mem) (kc3 ks3 : Nat), Bnd (wRqs (su μ) σ k ++ (if 0 < k then [44] else [])) 142 kc3 ks3 μ2 → eqO μ2 μ → go 276 9 kc3 ks3 mX10_writeRequests Q X 40 [.ref 0, .ref 31, .int (iI (k : Nat))] [] (put 20 σ μ2) := by
        intro μ2 kc3 ks3 g1 g2
        have es : su μ2 = su μ := su_eqO g2
        obtain ⟨kc1, ks1, kc2, ks2, u1, u2, u3, u4, u5, u6⟩ := bud (w := wSp (su μ) m (σ 14 k) q) g1 hL2
        have hc9 := g1.2.2.1
        obtain ⟨d1, d2, d3⟩ := cpf_c (n := ((wRqs (su μ) σ k ++ (if 0 < k then [44] else []) ++ wSp (su μ) m (σ 14 k) q).length : Nat)) hc9 (by omega)
        refine go_aload_n (y := mX10_writeRequests) (pc := 40) dX10_writeRequests_40 rfl rfl ?_
        refine go_aload_n (y := mX10_writeRequests) (pc := 41) dX10_writeRequests_41 rfl rfl ?_
        refine go_getR (y := mX10_writeRequests) (pc := 42) dX10_writeRequests_42 fl_X10_289 (ch_sh h20 11 (by decide)) rfl (ch_z (r := 11) h20 (by decide)) ?_
        refine go_iload_n (y := mX10_writeRequests) (pc := 45) dX10_writeRequests_45 rfl rfl ?_
        refine go_cial (y := mX10_writeRequests) (pc := 46) (r := 12) (k := k) dX10_writeRequests_46 h20 (by decide) rfl (by decide) rfl (by omega) (by decide) (fun r46 => ?_)
        refine go_top (b := ((m : Nat) : Int)) (em) (fun t46 => ?_)
        refine go_aload_n (y := mX10_writeRequests) (pc := 47) dX10_writeRequests_47 rfl rfl ?_
        refine go_getR (y := mX10_writeRequests) (pc := 48) dX10_writeRequests_48 fl_X10_384 (ch_sh h20 11 (by decide)) rfl (ch_z (r := 11) h20 (by decide)) ?_
        refine go_iload_n (y := mX10_writeRequests) (pc := 51) dX10_writeRequests_51 rfl rfl ?_
        refine go_cial (y := mX10_writeRequests) (pc := 52) (r := 14) (k := k) dX10_writeRequests_52 h20 (by decide) rfl (by decide) rfl (by omega) (by decide) (fun r52 => ?_)
        refine go_top (b := σ 14 k) (rfl) (fun t52 => ?_)
        refine go_aload_n (y := mX10_writeRequests) (pc := 53) dX10_writeRequests_53 rfl rfl ?_
        refine go_getR (y := mX10_writeRequests) (pc := 54) dX10_writeRequests_54 fl_X10_385 (ch_sh h20 11 (by decide)) rfl (ch_z (r := 11) h20 (by decide)) ?_
        refine go_iload_n (y := mX10_writeRequests) (pc := 57) dX10_writeRequests_57 rfl rfl ?_
        refine go_cial (y := mX10_writeRequests) (pc := 58) (r := 13) (k := k) dX10_writeRequests_58 h20 (by decide) rfl (by decide) rfl (by omega) (by decide) (fun r58 => ?_)
        refine go_top (b := ((q : Nat) : Int)) (eq) (fun t58 => ?_)
        refine go_callV3 (y := mX10_writeRequests) (pc := 59) (y' := mX10_writeSpeech) (kc2 := kc2) (ks2 := ks2) dX10_writeRequests_59 ml_X10_377 ok_X10_writeSpeech (show shp 0 = _ from rfl) ⟨_, _, rfl⟩ (by decide) ⟨rfl, rfl, rfl⟩ ⟨by decide, by decide, by decide, u1, u2⟩ (Nat.le_of_ble_eq_true rfl) rfl (w_speech (kc := kc1) (ks := ks1) (by omega) (by rw [es]; exact hN m (by omega)) (by omega) hR.2.2.2.2 u5 (by rw [es]; exact d3) (by rw [es]) (fun μ37 o37 z37 x37 e37 => ?_))
        refine go_iinc (y := mX10_writeRequests) (pc := 62) dX10_writeRequests_62 rfl (by decide) ?_
        refine go_goto (y := mX10_writeRequests) (pc := 65) (tgt := 18) dX10_writeRequests_65 (by decide) ?_
        rw [es, ← eW] at o37
        rw [← eW] at x37 u6
        exact ih (k + 1) μ37 kc2 ks2 (by omega) (u6 μ37 o37 z37 x37) (eqO_t e37 g2)
      refine go_iload_n (y := mX10_writeRequests) (pc := 18) dX10_writeRequests_18 rfl rfl ?_
      refine go_aload_n (y := mX10_writeRequests) (pc := 19) dX10_writeRequests_19 rfl rfl ?_
      refine go_cget (y := mX10_writeRequests) (pc := 20) (r := 11) dX10_writeRequests_20 fl_X10_255 h20 (by decide) rfl rfl (by decide) (fun r20 => ?_)
      refine go_top (b := σ 11 0) (rfl) (fun t20 => ?_)
      refine go_icmp_ge (y := mX10_writeRequests) (pc := 23) (tgt := 68) dX10_writeRequests_23 (by decide) (by omega) (by omega) (fun h23 => ?_) (fun h23 => ?_)
      · skip
        exact absurd h23 (by omega)
      · skip
        refine go_iload_n (y := mX10_writeRequests) (pc := 26) dX10_writeRequests_26 rfl rfl ?_
        refine go_if_le (y := mX10_writeRequests) (pc := 27) (tgt := 40) dX10_writeRequests_27 (by decide) (by omega) (fun h27 => ?_) (fun h27 => ?_)
        · skip
          refine JJ μ1 kc ks ?_ h2
          rw [if_neg (show ¬ 0 < k by omega), List.append_nil]
          exact h1
        · skip
          refine go_aload_n (y := mX10_writeRequests) (pc := 30) dX10_writeRequests_30 rfl rfl ?_
          refine go_getR (y := mX10_writeRequests) (pc := 31) dX10_writeRequests_31 fl_X10_72 rfl rfl (by decide) ?_
          refine go_bipush (y := mX10_writeRequests) (pc := 34) dX10_writeRequests_34 (by decide) ?_
          refine go_wC (y := mX10_writeRequests) (pc := 36) dX10_writeRequests_36 ml_X10_365 (by decide) (by decide) (Nat.le_of_ble_eq_true rfl) rfl (by decide) h1 (by rw [if_pos (show 0 < k by omega)] at hL2; exact lenp hL2) (fun μ36 kc36 ks36 b36 e36 f36 => ?_)
          refine go_pop (y := mX10_writeRequests) (pc := 39) dX10_writeRequests_39 rfl ?_
          refine JJ μ36 kc36 ks36 ?_ (eqO_t e36 h2)
          rw [if_pos (show 0 < k by omega)]
          exact b36
  refine go_aload_n (y := mX10_writeRequests) (pc := 0) dX10_writeRequests_0 rfl rfl ?_
  refine go_getR (y := mX10_writeRequests) (pc := 1) dX10_writeRequests_1 fl_X10_72 rfl rfl (by decide) ?_
  refine go_iconst (y := mX10_writeRequests) (pc := 4) dX10_writeRequests_4 ?_
  refine go_callO (y := mX10_writeRequests) (pc := 5) (y' := mJ4_setLength_d00df) (as := [.int (iI 0)]) (kc2 := 3) (ks2 := 246) dX10_writeRequests_5 rfl ml_X10_362 ok2_J4_setLength_d00df se_J4_setLength_d00df (by decide) rfl (Nat.le_of_ble_eq_true rfl) (by intro v hv; simp only [List.mem_cons, List.not_mem_nil, or_false] at hv; rw [hv]; rfl) (Nat.le_of_ble_eq_true rfl) (Nat.le_refl _) (by decide) (by decide) (by decide) rfl (sb_setLen (by rw [put_o (by decide)]; exact h3) (by rw [put_o (by decide), put_o (by decide)]; exact hf) (by rw [put_o (by decide)]; exact hch) ?_)
  refine go_mem (put_wo (by decide)) ?_
  refine go_aload_n (y := mX10_writeRequests) (pc := 8) dX10_writeRequests_8 rfl rfl ?_
  refine go_getR (y := mX10_writeRequests) (pc := 9) dX10_writeRequests_9 fl_X10_47 rfl rfl (by decide) ?_
  refine go_getR (y := mX10_writeRequests) (pc := 12) dX10_writeRequests_12 fl_X10_209 (ch_sh h20 0 (by decide)) rfl (ch_z (r := 0) h20 (by decide)) ?_
  refine go_astore_n (y := mX10_writeRequests) (pc := 15) dX10_writeRequests_15 rfl (by decide) ?_
  refine go_iconst (y := mX10_writeRequests) (pc := 16) dX10_writeRequests_16 ?_
  refine go_istore_n (y := mX10_writeRequests) (pc := 17) dX10_writeRequests_17 rfl (by decide) ?_
  refine loop n 0 _ 3 246 (Nat.zero_add n) ⟨⟨wr_s _ _ _ _, fun j c hj => by cases hj⟩, ?_, ?_, Or.inr (Or.inr (Or.inr rfl)), ?_, ?_, ?_, ?_⟩ ⟨fun b j hb => wr_na (by omega), ?_⟩
  · rw [wr_na (by decide)]; exact h3
  · rw [wr_na (by decide)]; exact hch
  · rw [wr_na (by decide)]; exact (chn_b hch).2
  · rw [wr_na (by decide)]; exact Nat.le_trans (kB_le (Or.inl rfl) hch (chn_b hch).1).1 (by decide)
  · rw [wr_na (by decide)]; exact Nat.le_trans (kB_le (Or.inl rfl) hch (chn_b hch).1).2 (by decide)
  · rw [wr_s, wr_na (by decide)]; have := chn_b hch; omega
  · rw [wr_na (by decide)]; exact h3
end WAll
