/-! A TEXT IS APPENDED: the JDK's methods -/
/-- the memory behind a text -/
def aps (μ : Mem) (L : Nat) (xs : Nat → Int32) : Mem := wr (cpt (if μ 5000 0 + L ≤ μ 5002 0 then μ else grw μ (2 * μ 5002 0 + 2)) (μ 5000 0).toNat L xs) 5000 0 (μ 5000 0 + L)
section ApText
variable {Q : Option Value → Mem → Prop} {X : String → Mem → Prop} {μ : Mem} {L : Nat} {xs : Nat → Int32}
theorem tt_getBytes {n : Nat} (hm : μ 5003 0 ≠ 0) (hn : (n : Int) + L ≤ μ 5002 0) (hx : ∀ j, j < L → -128 ≤ chx xs j ∧ chx xs j < 128) (K : Q none (cpt μ n L xs)) : mt 276 1 0 0 (wt mJ0_getBytes_840e7 L xs) [.ref 6100, .ref 5001, .int (iI (n : Nat)), .int (iI 0)] Q X μ := by
  show go 276 1 0 0 (wt mJ0_getBytes_840e7 L xs) Q X 0 [.ref 6100, .ref 5001, .int (iI (n : Nat)), .int (iI 0)] [] _
  refine go_aload_n (y := wt mJ0_getBytes_840e7 L xs) (pc := 0) dJ0_getBytes_840e7_0 rfl rfl ?_
  refine go_callT (y := wt mJ0_getBytes_840e7 L xs) (pc := 1) (y' := wt mJ0_coder_7d493 L xs) (as := []) (z' := 276) (d' := 0) (kc' := 0) (ks' := 0) (kc2 := 0) (ks2 := 0) dJ0_getBytes_840e7_1 rfl ml_J0_335 (okV_t ok_J0_coder_7d493) rfl rfl rfl rfl (Nat.le_of_ble_eq_true rfl) (by intro v hv; cases hv) (Nat.le_of_ble_eq_true rfl) (Nat.le_refl _) (by decide) (by decide) (by decide) rfl (tt_coder ?_)
  refine go_iload_n (y := wt mJ0_getBytes_840e7 L xs) (pc := 4) dJ0_getBytes_840e7_4 rfl rfl ?_
  refine go_icmp_ne (y := wt mJ0_getBytes_840e7 L xs) (pc := 5) (tgt := 28) dJ0_getBytes_840e7_5 (by decide) (by decide) (by decide) (fun h => absurd rfl h) (fun _ => ?_)
  refine go_aload_n (y := wt mJ0_getBytes_840e7 L xs) (pc := 8) dJ0_getBytes_840e7_8 rfl rfl ?_
  refine go_tval (y := wt mJ0_getBytes_840e7 L xs) (pc := 9) dJ0_getBytes_840e7_9 rfl rfl ?_
  refine go_iconst (y := wt mJ0_getBytes_840e7 L xs) (pc := 12) dJ0_getBytes_840e7_12 ?_
  refine go_aload_n (y := wt mJ0_getBytes_840e7 L xs) (pc := 13) dJ0_getBytes_840e7_13 rfl rfl ?_
  refine go_iload_n (y := wt mJ0_getBytes_840e7 L xs) (pc := 14) dJ0_getBytes_840e7_14 rfl rfl ?_
  refine go_iload_n (y := wt mJ0_getBytes_840e7 L xs) (pc := 15) dJ0_getBytes_840e7_15 rfl rfl ?_
  refine go_ishl (y := wt mJ0_getBytes_840e7 L xs) (pc := 16) dJ0_getBytes_840e7_16 (v := (n : Nat)) (shl0 _) ?_
  refine go_aload_n (y := wt mJ0_getBytes_840e7 L xs) (pc := 17) dJ0_getBytes_840e7_17 rfl rfl ?_
  refine go_tval (y := wt mJ0_getBytes_840e7 L xs) (pc := 18) dJ0_getBytes_840e7_18 rfl rfl ?_
  refine go_tlen (y := wt mJ0_getBytes_840e7 L xs) (pc := 21) dJ0_getBytes_840e7_21 rfl (fun hL => ?_)
  refine go_tcopy (y := wt mJ0_getBytes_840e7 L xs) (pc := 22) dJ0_getBytes_840e7_22 rfl rfl (by decide) hm hn hx (by decide) (by decide) ?_
  refine go_goto (y := wt mJ0_getBytes_840e7 L xs) (pc := 25) (tgt := 43) dJ0_getBytes_840e7_25 (by decide) ?_
  exact go_return (y := wt mJ0_getBytes_840e7 L xs) (pc := 43) dJ0_getBytes_840e7_43 rfl K
theorem tt_inflate (K : Q none μ) : mt 276 1 0 0 (wt mJ5_inflateIfNeededFor_a7421 L xs) [.ref 5000, .ref 6100] Q X μ := by
  show go 276 1 0 0 (wt mJ5_inflateIfNeededFor_a7421 L xs) Q X 0 [.ref 5000, .ref 6100] [] _
  refine go_compact (y := wt mJ5_inflateIfNeededFor_a7421 L xs) (pc := 0) dJ5_inflateIfNeededFor_a7421_0 fk_J5_18 ?_
  refine go_if_eq (y := wt mJ5_inflateIfNeededFor_a7421 L xs) (pc := 3) (tgt := 21) dJ5_inflateIfNeededFor_a7421_3 (by decide) (by decide) (fun h => absurd h (by decide)) (fun _ => ?_)
  refine go_aload_n (y := wt mJ5_inflateIfNeededFor_a7421 L xs) (pc := 6) dJ5_inflateIfNeededFor_a7421_6 rfl rfl ?_
  refine go_bcod (y := wt mJ5_inflateIfNeededFor_a7421 L xs) (pc := 7) dJ5_inflateIfNeededFor_a7421_7 fk_J5_22 (by decide) ?_
  refine go_aload_n (y := wt mJ5_inflateIfNeededFor_a7421 L xs) (pc := 10) dJ5_inflateIfNeededFor_a7421_10 rfl rfl ?_
  refine go_callT (y := wt mJ5_inflateIfNeededFor_a7421 L xs) (pc := 11) (y' := wt mJ0_coder_7d493 L xs) (as := []) (z' := 276) (d' := 0) (kc' := 0) (ks' := 0) (kc2 := 0) (ks2 := 0) dJ5_inflateIfNeededFor_a7421_11 rfl ml_J5_40 (okV_t ok_J0_coder_7d493) rfl rfl rfl rfl (Nat.le_of_ble_eq_true rfl) (by intro v hv; cases hv) (Nat.le_of_ble_eq_true rfl) (Nat.le_refl _) (by decide) (by decide) (by decide) rfl (tt_coder ?_)
  refine go_icmp_eq (y := wt mJ5_inflateIfNeededFor_a7421 L xs) (pc := 14) (tgt := 21) dJ5_inflateIfNeededFor_a7421_14 (by decide) (by decide) (by decide) (fun _ => ?_) (fun h => absurd rfl h)
  exact go_return (y := wt mJ5_inflateIfNeededFor_a7421 L xs) (pc := 21) dJ5_inflateIfNeededFor_a7421_21 rfl K
theorem tt_putStringAt {n : Nat} (h0 : μ 5003 0 = 0) (hn : (n : Int) + L ≤ μ 5002 0) (hx : ∀ j, j < L → -128 ≤ chx xs j ∧ chx xs j < 128) (K : Q none (cpt μ n L xs)) : mt 276 2 0 0 (wt mJ5_putStringAt_47b60 L xs) [.ref 5000, .int (iI (n : Nat)), .ref 6100] Q X μ := by
  show go 276 2 0 0 (wt mJ5_putStringAt_47b60 L xs) Q X 0 [.ref 5000, .int (iI (n : Nat)), .ref 6100] [] _
  refine go_aload_n (y := wt mJ5_putStringAt_47b60 L xs) (pc := 0) dJ5_putStringAt_47b60_0 rfl rfl ?_
  refine go_aload_n (y := wt mJ5_putStringAt_47b60 L xs) (pc := 1) dJ5_putStringAt_47b60_1 rfl rfl ?_
  refine go_callOs (y := wt mJ5_putStringAt_47b60 L xs) (pc := 2) (y' := wt mJ5_inflateIfNeededFor_a7421 L xs) (as := [.ref 6100]) (kc2 := 0) (ks2 := 0) dJ5_putStringAt_47b60_2 rfl ml_J5_397 rfl (okI_t ok_J5_inflateIfNeededFor_a7421) se_J5_inflateIfNeededFor_a7421 (by decide) rfl (Nat.le_of_ble_eq_true rfl) (by intro v hv; rw [List.mem_singleton.mp hv]; rfl) (Nat.le_of_ble_eq_true rfl) (Nat.le_refl _) (by decide) (by decide) (by decide) rfl (tt_inflate ?_)
  refine go_sbin (by decide) (by repeat' first | exact nob_nil | refine nob_int ?_ | refine nob_null ?_ | refine nob_ref (by decide) ?_) (by repeat' first | exact nob_nil | refine nob_int ?_ | refine nob_null ?_ | refine nob_ref (by decide) ?_) ?_
  obtain ⟨N, eN⟩ : ∃ N, N = wr μ 5003 0 1 := ⟨_, rfl⟩
  have hm : N 5003 0 ≠ 0 := by rw [eN, wr_s]; decide
  have N2 : N 5002 0 = μ 5002 0 := by rw [eN, wr_na (by decide)]
  refine go_mem eN.symm ?_
  refine go_aload_n (y := wt mJ5_putStringAt_47b60 L xs) (pc := 5) dJ5_putStringAt_47b60_5 rfl rfl ?_
  refine go_aload_n (y := wt mJ5_putStringAt_47b60 L xs) (pc := 6) dJ5_putStringAt_47b60_6 rfl rfl ?_
  refine go_bref (y := wt mJ5_putStringAt_47b60 L xs) (pc := 7) dJ5_putStringAt_47b60_7 fk_J5_15 (by decide) hm ?_
  refine go_iload_n (y := wt mJ5_putStringAt_47b60 L xs) (pc := 10) dJ5_putStringAt_47b60_10 rfl rfl ?_
  refine go_aload_n (y := wt mJ5_putStringAt_47b60 L xs) (pc := 11) dJ5_putStringAt_47b60_11 rfl rfl ?_
  refine go_bcod (y := wt mJ5_putStringAt_47b60 L xs) (pc := 12) dJ5_putStringAt_47b60_12 fk_J5_22 (by decide) ?_
  refine go_callT (y := wt mJ5_putStringAt_47b60 L xs) (pc := 15) (y' := wt mJ0_getBytes_840e7 L xs) (as := [.ref 5001, .int (iI (n : Nat)), .int (iI 0)]) (z' := 276) (d' := 1) (kc' := 0) (ks' := 0) (kc2 := 0) (ks2 := 0) dJ5_putStringAt_47b60_15 rfl ml_J5_399 (okV_t ok_J0_getBytes_840e7) rfl rfl rfl rfl (Nat.le_of_ble_eq_true rfl) (by intro v hv; simp only [List.mem_cons, List.not_mem_nil, or_false] at hv; rcases hv with rfl | rfl | rfl <;> rfl) (Nat.le_of_ble_eq_true rfl) (Nat.le_refl _) (by decide) (by decide) (by decide) rfl (tt_getBytes hm (by rw [N2]; exact hn) hx ?_)
  refine go_return (y := wt mJ5_putStringAt_47b60 L xs) (pc := 18) dJ5_putStringAt_47b60_18 rfl ?_
  refine ⟨fun w => (by cases w), ?_⟩
  rw [show wr (cpt N n L xs) 5003 0 0 = cpt μ n L xs from ?_]
  · exact K
  · funext b j
    by_cases e : b = 5003 ∧ j = 0
    · rw [e.1, e.2, wr_s, cpt_o (by decide), h0]
    · rw [wr_n e]
      unfold cpt
      rw [eN, wr_n e]
theorem tt_append5 {kc ks : Nat} (h0 : μ 5003 0 = 0) (hf : 0 ≤ μ 5000 0 ∧ μ 5000 0 ≤ μ 5002 0) (hch : chk (μ 5002 0) (μ 5000 0 + L)) (hn : μ 5000 0 + L ≤ 382) (hg : μ 5000 0 + L ≤ 2 * μ 5002 0 + 2) (hx : ∀ j, j < L → -128 ≤ chx xs j ∧ chx xs j < 128) (hk : kB (μ 5002 0) ≤ kc + kB (cpf (μ 5002 0) (μ 5000 0 + L))) (hs : sB (μ 5002 0) ≤ ks + sB (cpf (μ 5002 0) (μ 5000 0 + L))) (K : Q (some (.ref 5000)) (aps μ L xs)) : mt 276 4 kc ks (wt mJ5_append_cf1ce L xs) [.ref 5000, .ref 6100] Q X μ := by
  show go 276 4 kc ks (wt mJ5_append_cf1ce L xs) Q X 0 [.ref 5000, .ref 6100, .null] [] _
  have hcap : μ 5002 0 = 16 ∨ μ 5002 0 = 22 ∨ μ 5002 0 = 46 ∨ μ 5002 0 = 94 ∨ μ 5002 0 = 190 ∨ μ 5002 0 = 382 := by unfold chk chn at hch; omega
  obtain ⟨k, hk0⟩ := Int.eq_ofNat_of_zero_le hf.1
  have J24 : ∀ M : Mem, M 5003 0 = 0 → M 5000 0 = μ 5000 0 → μ 5000 0 + L ≤ M 5002 0 → M 5002 0 ≤ 382 → M = (if μ 5000 0 + L ≤ μ 5002 0 then μ else grw μ (2 * μ 5002 0 + 2)) → go 276 4 0 0 (wt mJ5_append_cf1ce L xs) Q X 24 [.ref 5000, .ref 6100, .int (iI (L : Nat))] [] M := by
    intro M m3 m0 m2 m4 eM
    refine go_aload_n (y := wt mJ5_append_cf1ce L xs) (pc := 24) dJ5_append_cf1ce_24 rfl rfl ?_
    refine go_aload_n (y := wt mJ5_append_cf1ce L xs) (pc := 25) dJ5_append_cf1ce_25 rfl rfl ?_
    refine go_bcnt (y := wt mJ5_append_cf1ce L xs) (pc := 26) dJ5_append_cf1ce_26 fk_J5_79 (by decide) ?_
    refine go_top (b := ((k : Nat) : Int)) (by omega) (fun _ => ?_)
    refine go_aload_n (y := wt mJ5_append_cf1ce L xs) (pc := 29) dJ5_append_cf1ce_29 rfl rfl ?_
    refine go_callOs (y := wt mJ5_append_cf1ce L xs) (pc := 30) (y' := wt mJ5_putStringAt_47b60 L xs) (as := [.int (iI (k : Nat)), .ref 6100]) (kc2 := 0) (ks2 := 0) dJ5_append_cf1ce_30 rfl ml_J5_208 rfl (okI_t ok_J5_putStringAt_47b60) se_J5_putStringAt_47b60 (by decide) rfl (Nat.le_of_ble_eq_true rfl) (by intro v hv; simp only [List.mem_cons, List.not_mem_nil, or_false] at hv; rcases hv with rfl | rfl <;> rfl) (Nat.le_of_ble_eq_true rfl) (Nat.le_refl _) (by decide) (by decide) (by decide) rfl (tt_putStringAt m3 (by omega) hx ?_)
    refine go_aload_n (y := wt mJ5_append_cf1ce L xs) (pc := 33) dJ5_append_cf1ce_33 rfl rfl ?_
    refine go_dup (y := wt mJ5_append_cf1ce L xs) (pc := 34) dJ5_append_cf1ce_34 rfl ?_
    refine go_bcnt (y := wt mJ5_append_cf1ce L xs) (pc := 35) dJ5_append_cf1ce_35 fk_J5_79 (by decide) ?_
    refine go_top (b := μ 5000 0) (by rw [cpt_o (by decide)]; exact m0) (fun _ => ?_)
    refine go_iload_n (y := wt mJ5_append_cf1ce L xs) (pc := 38) dJ5_append_cf1ce_38 rfl rfl ?_
    refine go_iadd (y := wt mJ5_append_cf1ce L xs) (pc := 39) dJ5_append_cf1ce_39 ?_
    refine go_bsetc (y := wt mJ5_append_cf1ce L xs) (pc := 40) dJ5_append_cf1ce_40 fk_J5_79 (by decide) (by rw [cpt_o (by decide)]; omega) ?_
    refine go_aload_n (y := wt mJ5_append_cf1ce L xs) (pc := 43) dJ5_append_cf1ce_43 rfl rfl ?_
    refine go_areturn (y := wt mJ5_append_cf1ce L xs) (pc := 44) dJ5_append_cf1ce_44 rfl (Or.inl ⟨_, rfl⟩) ?_
    have e : wr (cpt M k L xs) 5000 0 (μ 5000 0 + L) = aps μ L xs := by
      unfold aps
      rw [← eM, show (μ 5000 0).toNat = k by omega]
    rw [e]
    exact K
  refine go_aload_n (y := wt mJ5_append_cf1ce L xs) (pc := 0) dJ5_append_cf1ce_0 rfl rfl ?_
  refine go_ifnn (y := wt mJ5_append_cf1ce L xs) (pc := 1) (tgt := 9) dJ5_append_cf1ce_1 (by decide) ?_
  refine go_aload_n (y := wt mJ5_append_cf1ce L xs) (pc := 9) dJ5_append_cf1ce_9 rfl rfl ?_
  refine go_callT (y := wt mJ5_append_cf1ce L xs) (pc := 10) (y' := wt mJ0_length_8abf5 L xs) (as := []) (z' := 276) (d' := 1) (kc' := 0) (ks' := 0) (kc2 := kc) (ks2 := ks) dJ5_append_cf1ce_10 rfl ml_J5_32 (okV_t ok_J0_length_8abf5) rfl rfl rfl rfl (Nat.le_of_ble_eq_true rfl) (by intro v hv; cases hv) (Nat.le_of_ble_eq_true rfl) (Nat.le_refl _) (by decide) (by omega) (by omega) rfl (tt_length ?_)
  refine go_istore_n (y := wt mJ5_append_cf1ce L xs) (pc := 13) dJ5_append_cf1ce_13 rfl (Nat.le_of_ble_eq_true rfl) ?_
  refine go_aload_n (y := wt mJ5_append_cf1ce L xs) (pc := 14) dJ5_append_cf1ce_14 rfl rfl ?_
  refine go_aload_n (y := wt mJ5_append_cf1ce L xs) (pc := 15) dJ5_append_cf1ce_15 rfl rfl ?_
  refine go_bcnt (y := wt mJ5_append_cf1ce L xs) (pc := 16) dJ5_append_cf1ce_16 fk_J5_79 (by decide) ?_
  refine go_iload_n (y := wt mJ5_append_cf1ce L xs) (pc := 19) dJ5_append_cf1ce_19 rfl rfl ?_
  refine go_iadd (y := wt mJ5_append_cf1ce L xs) (pc := 20) dJ5_append_cf1ce_20 ?_
  by_cases g : μ 5000 0 + L ≤ μ 5002 0
  · refine go_callO (y := wt mJ5_append_cf1ce L xs) (pc := 21) (y' := mJ5_ensureCapacityInternal_d00df) (as := [.int (iI (μ 5000 0 + L))]) (kc2 := 0) (ks2 := 0) dJ5_append_cf1ce_21 rfl ml_J5_100 ok_J5_ensureCapacityInternal_d00df se_J5_ensureCapacityInternal_d00df (by decide) rfl (Nat.le_of_ble_eq_true rfl) (by intro v hv; rw [List.mem_singleton.mp hv]; rfl) (Nat.le_of_ble_eq_true rfl) (Nat.le_refl _) (by decide) (Nat.zero_le _) (Nat.zero_le _) rfl (sb_ens0 h0 (by omega) ?_)
    exact J24 μ h0 rfl g (by omega) (if_pos g).symm
  · obtain ⟨g1, g2, g3, g4⟩ := cpf_g hch (by omega) (by omega) hn
    rw [g1] at hk hs
    refine go_callO (y := wt mJ5_append_cf1ce L xs) (pc := 21) (y' := mJ5_ensureCapacityInternal_d00df) (as := [.int (iI (μ 5000 0 + L))]) (kc2 := 0) (ks2 := 0) dJ5_append_cf1ce_21 rfl ml_J5_100 ok_J5_ensureCapacityInternal_d00df se_J5_ensureCapacityInternal_d00df (by decide) rfl (Nat.le_of_ble_eq_true rfl) (by intro v hv; rw [List.mem_singleton.mp hv]; rfl) (Nat.le_of_ble_eq_true rfl) (Nat.le_refl _) (by decide) (show 1 + 0 ≤ kc by omega) (show (2 * μ 5002 0 + 2).toNat + 0 ≤ ks by omega) rfl (sb_ens1 (ks := (2 * μ 5002 0 + 2).toNat) (Nat.le_refl _) h0 (by omega) g4 ?_)
    exact J24 _ grw_3 (grw_o (by decide)) (by rw [grw_2]; omega) (by rw [grw_2]; omega) (if_neg g).symm
theorem tt_append {kc ks : Nat} (h0 : μ 5003 0 = 0) (hf : 0 ≤ μ 5000 0 ∧ μ 5000 0 ≤ μ 5002 0) (hch : chk (μ 5002 0) (μ 5000 0 + L)) (hn : μ 5000 0 + L ≤ 382) (hg : μ 5000 0 + L ≤ 2 * μ 5002 0 + 2) (hx : ∀ j, j < L → -128 ≤ chx xs j ∧ chx xs j < 128) (hk : kB (μ 5002 0) ≤ kc + kB (cpf (μ 5002 0) (μ 5000 0 + L))) (hs : sB (μ 5002 0) ≤ ks + sB (cpf (μ 5002 0) (μ 5000 0 + L))) (K : Q (some (.ref 5000)) (aps μ L xs)) : mt 276 5 kc ks (wt mJ4_append_15ec4 L xs) [.ref 5000, .ref 6100] Q X μ := by
  show go 276 5 kc ks (wt mJ4_append_15ec4 L xs) Q X 0 [.ref 5000, .ref 6100] [] _
  refine go_aload_n (y := wt mJ4_append_15ec4 L xs) (pc := 0) dJ4_append_15ec4_0 rfl rfl ?_
  refine go_aload_n (y := wt mJ4_append_15ec4 L xs) (pc := 1) dJ4_append_15ec4_1 rfl rfl ?_
  refine go_callSus (y := wt mJ4_append_15ec4 L xs) (pc := 2) (y' := wt mJ5_append_cf1ce L xs) (as := [.ref 6100]) (kc2 := 0) (ks2 := 0) dJ4_append_15ec4_2 rfl ml_J4_29 rfl (okI_t ok_J5_append_cf1ce) sm_J5_append_cf1ce su_J4 (show yJ5_append_cf1ce.name ≠ "<init>" by decide) (by decide) rfl (Nat.le_of_ble_eq_true rfl) (by intro v hv; rw [List.mem_singleton.mp hv]; rfl) (Nat.le_of_ble_eq_true rfl) (Nat.le_refl _) (by decide) (Nat.le_refl _) (Nat.le_refl _) rfl (tt_append5 (kc := kc) (ks := ks) h0 hf hch hn hg hx hk hs ?_)
  refine go_pop (y := wt mJ4_append_15ec4 L xs) (pc := 5) dJ4_append_15ec4_5 rfl ?_
  refine go_aload_n (y := wt mJ4_append_15ec4 L xs) (pc := 6) dJ4_append_15ec4_6 rfl rfl ?_
  exact go_areturn (y := wt mJ4_append_15ec4 L xs) (pc := 7) dJ4_append_15ec4_7 rfl (Or.inl ⟨_, rfl⟩) K
/-- the letters of a text -/
def lx (L : Nat) (xs : Nat → Int32) : List Int := (List.range L).map (chx xs)
theorem lx_len : (lx L xs).length = L := by simp [lx]
theorem lx_get {j : Nat} {c : Int} (h : (lx L xs)[j]? = some c) : j < L ∧ chx xs j = c := by
  have hl := (List.getElem?_eq_some_iff.mp h).1
  rw [lx_len] at hl
  unfold lx at h
  rw [List.getElem?_map, List.getElem?_range hl] at h
  exact ⟨hl, by injection h⟩
theorem aps_OL {l : List Int} (h : OL l μ) (hf : μ 5000 0 ≤ μ 5002 0) (h0 : μ 5003 0 = 0) (hc : chk (μ 5002 0) ((l.length : Int) + L)) (hn : (l.length : Int) + L ≤ 382) (hg : (l.length : Int) + L ≤ 2 * μ 5002 0 + 2) : OL (l ++ lx L xs) (aps μ L xs) ∧ eqO (aps μ L xs) μ ∧ aps μ L xs 5002 0 = cpf (μ 5002 0) (l.length + L) := by
  have e : μ 5000 0 = (l.length : Nat) := h.1
  unfold aps
  refine ⟨⟨?_, fun j x hj => ?_⟩, ⟨fun b j hb => ?_, ?_⟩, ?_⟩
  · rw [wr_s, List.length_append, lx_len]
    omega
  · rw [wr_na (by decide)]
    by_cases g : j < l.length
    · rw [List.getElem?_append_left g] at hj
      unfold cpt
      rw [if_neg (by omega)]
      by_cases q : μ 5000 0 + L ≤ μ 5002 0
      · rw [if_pos q]
        exact h.2 j x hj
      · rw [if_neg q, grw_1, if_pos (by omega)]
        exact h.2 j x hj
    · rw [List.getElem?_append_right (by omega)] at hj
      obtain ⟨g1, g2⟩ := lx_get hj
      unfold cpt
      rw [if_pos ⟨rfl, by omega, by omega⟩, show j - (μ 5000 0).toNat = j - l.length by omega]
      exact g2
  · rw [wr_na (by omega), cpt_o (by omega)]
    split
    · rfl
    · exact grw_o (by omega)
  · rw [wr_na (by decide), cpt_o (by decide)]
    split
    · exact h0
    · exact grw_3
  · rw [wr_na (by decide), cpt_o (by decide)]
    by_cases q : μ 5000 0 + L ≤ μ 5002 0
    · rw [if_pos q, cpf_i (by omega)]
    · rw [if_neg q, grw_2]
      exact (cpf_g hc (by omega) (by omega) hn).1.symm
end ApText
