/-! THE OUTPUT: emptied, its length, its letters; names -/
set_option maxRecDepth 8000 in
set_option maxHeartbeats 4000000 in
theorem sb_setLen5 {μ : Mem} (h0 : μ 5003 0 = 0) (hf : 0 ≤ μ 5000 0 ∧ μ 5000 0 ≤ μ 5002 0) (hch : chn (μ 5002 0)) {Q : Option Value → Mem → Prop} {X : String → Mem → Prop} (K : Q none (wr μ 5000 0 0)) : mt 276 4 0 0 mJ5_setLength_d00df [.ref 5000, .int (iI 0)] Q X μ := by
  show go 276 4 0 0 mJ5_setLength_d00df Q X 0 [.ref 5000, .int (iI 0)] [] _
  have hc : 16 ≤ μ 5002 0 ∧ μ 5002 0 ≤ 142 := by unfold chn at hch; omega
  refine go_iload_n (y := mJ5_setLength_d00df) (pc := 0) dJ5_setLength_d00df_0 rfl rfl ?_
  refine go_if_ge (y := mJ5_setLength_d00df) (pc := 1) (tgt := 13) dJ5_setLength_d00df_1 (by decide) (by omega) (fun h1 => ?_) (fun h1 => ?_)
  · skip
    refine go_aload_n (y := mJ5_setLength_d00df) (pc := 13) dJ5_setLength_d00df_13 rfl rfl ?_
    refine go_iload_n (y := mJ5_setLength_d00df) (pc := 14) dJ5_setLength_d00df_14 rfl rfl ?_
    refine go_callO (y := mJ5_setLength_d00df) (pc := 15) (y' := mJ5_ensureCapacityInternal_d00df) (as := [.int (iI 0)]) (kc2 := 0) (ks2 := 0) dJ5_setLength_d00df_15 rfl ml_J5_100 ok_J5_ensureCapacityInternal_d00df se_J5_ensureCapacityInternal_d00df (by decide) rfl (Nat.le_of_ble_eq_true rfl) (by intro v hv; simp only [List.mem_cons, List.not_mem_nil, or_false] at hv; rw [hv]; rfl) (Nat.le_of_ble_eq_true rfl) (Nat.le_refl _) (by decide) (by decide) (by decide) rfl (sb_ens0 h0 (by omega) ?_)
    refine go_aload_n (y := mJ5_setLength_d00df) (pc := 18) dJ5_setLength_d00df_18 rfl rfl ?_
    refine go_bcnt (y := mJ5_setLength_d00df) (pc := 19) dJ5_setLength_d00df_19 fk_J5_79 (by decide) ?_
    refine go_top (b := μ 5000 0) (rfl) (fun t19 => ?_)
    refine go_iload_n (y := mJ5_setLength_d00df) (pc := 22) dJ5_setLength_d00df_22 rfl rfl ?_
    refine go_icmp_ge (y := mJ5_setLength_d00df) (pc := 23) (tgt := 63) dJ5_setLength_d00df_23 (by decide) (by omega) (by omega) (fun h23 => ?_) (fun h23 => ?_)
    · skip
      refine go_aload_n (y := mJ5_setLength_d00df) (pc := 63) dJ5_setLength_d00df_63 rfl rfl ?_
      refine go_bcnt (y := mJ5_setLength_d00df) (pc := 64) dJ5_setLength_d00df_64 fk_J5_79 (by decide) ?_
      refine go_top (b := μ 5000 0) (rfl) (fun t64 => ?_)
      refine go_iload_n (y := mJ5_setLength_d00df) (pc := 67) dJ5_setLength_d00df_67 rfl rfl ?_
      refine go_icmp_le (y := mJ5_setLength_d00df) (pc := 68) (tgt := 76) dJ5_setLength_d00df_68 (by decide) (by omega) (by omega) (fun h68 => ?_) (fun h68 => ?_)
      · skip
        refine go_aload_n (y := mJ5_setLength_d00df) (pc := 76) dJ5_setLength_d00df_76 rfl rfl ?_
        refine go_iload_n (y := mJ5_setLength_d00df) (pc := 77) dJ5_setLength_d00df_77 rfl rfl ?_
        refine go_bsetc (y := mJ5_setLength_d00df) (pc := 78) dJ5_setLength_d00df_78 fk_J5_79 (by decide) (by omega) ?_
        refine go_return (y := mJ5_setLength_d00df) (pc := 81) dJ5_setLength_d00df_81 rfl ?_
        exact K
      · skip
        refine go_aload_n (y := mJ5_setLength_d00df) (pc := 71) dJ5_setLength_d00df_71 rfl rfl ?_
        refine go_iconst (y := mJ5_setLength_d00df) (pc := 72) dJ5_setLength_d00df_72 ?_
        refine go_bsetm (y := mJ5_setLength_d00df) (pc := 73) dJ5_setLength_d00df_73 fk_J5_73 (by decide) ?_
        refine go_aload_n (y := mJ5_setLength_d00df) (pc := 76) dJ5_setLength_d00df_76 rfl rfl ?_
        refine go_iload_n (y := mJ5_setLength_d00df) (pc := 77) dJ5_setLength_d00df_77 rfl rfl ?_
        refine go_bsetc (y := mJ5_setLength_d00df) (pc := 78) dJ5_setLength_d00df_78 fk_J5_79 (by decide) (by omega) ?_
        refine go_return (y := mJ5_setLength_d00df) (pc := 81) dJ5_setLength_d00df_81 rfl ?_
        exact K
    · skip
      exact absurd h23 (by omega)
  · skip
    exact absurd h1 (by decide)
set_option maxRecDepth 8000 in
set_option maxHeartbeats 4000000 in
theorem sb_setLen {μ : Mem} (h0 : μ 5003 0 = 0) (hf : 0 ≤ μ 5000 0 ∧ μ 5000 0 ≤ μ 5002 0) (hch : chn (μ 5002 0)) {Q : Option Value → Mem → Prop} {X : String → Mem → Prop} (K : Q none (wr μ 5000 0 0)) : mt 276 5 0 0 mJ4_setLength_d00df [.ref 5000, .int (iI 0)] Q X μ := by
  show go 276 5 0 0 mJ4_setLength_d00df Q X 0 [.ref 5000, .int (iI 0)] [] _
  refine go_aload_n (y := mJ4_setLength_d00df) (pc := 0) dJ4_setLength_d00df_0 rfl rfl ?_
  refine go_iload_n (y := mJ4_setLength_d00df) (pc := 1) dJ4_setLength_d00df_1 rfl rfl ?_
  refine go_callSu (y := mJ4_setLength_d00df) (pc := 2) (y' := mJ5_setLength_d00df) (as := [.int (iI 0)]) (kc2 := 0) (ks2 := 0) dJ4_setLength_d00df_2 rfl ml_J4_333 ok_J5_setLength_d00df sm_J5_setLength_d00df su_J4 (by decide) (by decide) rfl (Nat.le_of_ble_eq_true rfl) (by intro v hv; simp only [List.mem_cons, List.not_mem_nil, or_false] at hv; rw [hv]; rfl) (Nat.le_of_ble_eq_true rfl) (Nat.le_refl _) (by decide) (by decide) (by decide) rfl (sb_setLen5 h0 hf hch ?_)
  refine go_return (y := mJ4_setLength_d00df) (pc := 5) dJ4_setLength_d00df_5 rfl ?_
  exact K
set_option maxRecDepth 8000 in
set_option maxHeartbeats 4000000 in
theorem sb_len5 {μ : Mem} {Q : Option Value → Mem → Prop} {X : String → Mem → Prop} (K : Q (some (.int (iI (μ 5000 0)))) μ) : mt 276 0 0 0 mJ5_length_8abf5 [.ref 5000] Q X μ := by
  show go 276 0 0 0 mJ5_length_8abf5 Q X 0 [.ref 5000] [] _
  refine go_aload_n (y := mJ5_length_8abf5) (pc := 0) dJ5_length_8abf5_0 rfl rfl ?_
  refine go_bcnt (y := mJ5_length_8abf5) (pc := 1) dJ5_length_8abf5_1 fk_J5_79 (by decide) ?_
  refine go_ireturn (y := mJ5_length_8abf5) (pc := 4) dJ5_length_8abf5_4 rfl ?_
  exact K
set_option maxRecDepth 8000 in
set_option maxHeartbeats 4000000 in
theorem sb_len {μ : Mem} {Q : Option Value → Mem → Prop} {X : String → Mem → Prop} (K : Q (some (.int (iI (μ 5000 0)))) μ) : mt 276 1 0 0 mJ4_length_8abf5 [.ref 5000] Q X μ := by
  show go 276 1 0 0 mJ4_length_8abf5 Q X 0 [.ref 5000] [] _
  refine go_aload_n (y := mJ4_length_8abf5) (pc := 0) dJ4_length_8abf5_0 rfl rfl ?_
  refine go_callSu (y := mJ4_length_8abf5) (pc := 1) (y' := mJ5_length_8abf5) (as := []) (kc2 := 0) (ks2 := 0) dJ4_length_8abf5_1 rfl ml_J4_343 ok_J5_length_8abf5 sm_J5_length_8abf5 su_J4 (by decide) (by decide) rfl (Nat.le_of_ble_eq_true rfl) (by intro v hv; simp only [List.mem_cons, List.not_mem_nil, or_false] at hv) (Nat.le_of_ble_eq_true rfl) (Nat.le_refl _) (by decide) (by decide) (by decide) rfl (sb_len5 ?_)
  refine go_ireturn (y := mJ4_length_8abf5) (pc := 4) dJ4_length_8abf5_4 rfl ?_
  exact K
theorem nar_c {v : Int} (h : 0 ≤ v ∧ v < 65536) : narrow .char (.int (iI v)) = .int (iI v) := by
  rw [show iI v = nI v.toNat from by
    rw [show nI v.toNat = iI (v.toNat : Int) from iI_of (by omega)]
    congr 1
    omega]
  exact (pk_charN (by omega)).1
set_option maxRecDepth 8000 in
set_option maxHeartbeats 4000000 in
theorem sb_charAt5 {μ : Mem} {k : Nat} (h0 : μ 5003 0 = 0) (hk : (k : Int) < μ 5000 0) (hf : μ 5000 0 ≤ μ 5002 0) (hch : chn (μ 5002 0)) (hb : 0 ≤ μ 5001 k ∧ μ 5001 k < 128) {Q : Option Value → Mem → Prop} {X : String → Mem → Prop} (K : Q (some (.int (iI (μ 5001 k)))) μ) : mt 276 2 0 0 mJ5_charAt_5068e [.ref 5000, .int (iI (k : Nat))] Q X μ := by
  show go 276 2 0 0 mJ5_charAt_5068e Q X 0 [.ref 5000, .int (iI (k : Nat)), .null, .null, .null] [] _
  have hc : 16 ≤ μ 5002 0 ∧ μ 5002 0 ≤ 142 := by unfold chn at hch; omega
  refine go_sbin (by decide) (by repeat' first | exact nob_nil | refine nob_int ?_ | refine nob_null ?_ | refine nob_ref (by decide) ?_) (by repeat' first | exact nob_nil | refine nob_int ?_ | refine nob_null ?_ | refine nob_ref (by decide) ?_) ?_
  obtain ⟨N, eN⟩ : ∃ N, N = wr μ 5003 0 1 := ⟨_, rfl⟩
  have hm : N 5003 0 ≠ 0 := by rw [eN, wr_s]; decide
  have N2 : N 5002 0 = μ 5002 0 := by rw [eN, wr_na (by decide)]
  have N0 : N 5000 0 = μ 5000 0 := by rw [eN, wr_na (by decide)]
  have N1 : N 5001 k = μ 5001 k := by rw [eN, wr_na (by decide)]
  refine go_mem eN.symm ?_
  refine go_aload_n (y := mJ5_charAt_5068e) (pc := 0) dJ5_charAt_5068e_0 rfl rfl ?_
  refine go_bcod (y := mJ5_charAt_5068e) (pc := 1) dJ5_charAt_5068e_1 fk_J5_22 (by decide) ?_
  refine go_istore_n (y := mJ5_charAt_5068e) (pc := 4) dJ5_charAt_5068e_4 rfl (by decide) ?_
  refine go_aload_n (y := mJ5_charAt_5068e) (pc := 5) dJ5_charAt_5068e_5 rfl rfl ?_
  refine go_bref (y := mJ5_charAt_5068e) (pc := 6) dJ5_charAt_5068e_6 fk_J5_15 (by decide) hm ?_
  refine go_astore_n (y := mJ5_charAt_5068e) (pc := 9) dJ5_charAt_5068e_9 rfl (by decide) ?_
  refine go_aload_n (y := mJ5_charAt_5068e) (pc := 10) dJ5_charAt_5068e_10 rfl rfl ?_
  refine go_bcnt (y := mJ5_charAt_5068e) (pc := 11) dJ5_charAt_5068e_11 fk_J5_79 (by decide) ?_
  refine go_top (b := μ 5000 0) (N0) (fun t11 => ?_)
  refine go_aload_n (y := mJ5_charAt_5068e) (pc := 14) dJ5_charAt_5068e_14 rfl rfl ?_
  refine go_blen (y := mJ5_charAt_5068e) (pc := 15) dJ5_charAt_5068e_15 (by decide) hm (fun a15 => ?_)
  refine go_top (b := μ 5002 0) (N2) (fun t15 => ?_)
  refine go_iload_n (y := mJ5_charAt_5068e) (pc := 16) dJ5_charAt_5068e_16 rfl rfl ?_
  refine go_ishr (y := mJ5_charAt_5068e) (pc := 17) dJ5_charAt_5068e_17 (v := μ 5002 0) (shr_0 _) ?_
  refine go_mmin (y := mJ5_charAt_5068e) (pc := 18) dJ5_charAt_5068e_18 ml_J5_138 (by decide) (Nat.le_of_ble_eq_true rfl) ⟨by omega, by omega⟩ ⟨by omega, by omega⟩ ?_
  refine go_top (b := μ 5000 0) ((by omega)) (fun t18 => ?_)
  refine go_istore (y := mJ5_charAt_5068e) (pc := 21) dJ5_charAt_5068e_21 (by decide) ?_
  refine go_iload_n (y := mJ5_charAt_5068e) (pc := 23) dJ5_charAt_5068e_23 rfl rfl ?_
  refine go_iload (y := mJ5_charAt_5068e) (pc := 24) dJ5_charAt_5068e_24 rfl ?_
  refine go_callS2 (y := mJ5_charAt_5068e) (pc := 26) (y' := mJ0_checkIndex_df160) (kc2 := 0) (ks2 := 0) dJ5_charAt_5068e_26 ml_J5_144 ok_J0_checkIndex_df160 ⟨rfl, rfl⟩ (by decide) (Nat.le_of_ble_eq_true rfl) rfl (k_check2 (z := 276) (by omega) (by omega) ?_)
  refine go_iload_n (y := mJ5_charAt_5068e) (pc := 29) dJ5_charAt_5068e_29 rfl rfl ?_
  refine go_if_ne (y := mJ5_charAt_5068e) (pc := 30) (tgt := 42) dJ5_charAt_5068e_30 (by decide) (by omega) (fun h30 => ?_) (fun h30 => ?_)
  · skip
    exact absurd rfl h30
  · skip
    refine go_aload_n (y := mJ5_charAt_5068e) (pc := 33) dJ5_charAt_5068e_33 rfl rfl ?_
    refine go_iload_n (y := mJ5_charAt_5068e) (pc := 34) dJ5_charAt_5068e_34 rfl rfl ?_
    refine go_blda (y := mJ5_charAt_5068e) (pc := 35) (k := k) dJ5_charAt_5068e_35 (by decide) hm (by omega) (by omega) (fun r35 => ?_)
    refine go_top (b := μ 5001 k) (N1) (fun t35 => ?_)
    refine go_sipush (y := mJ5_charAt_5068e) (pc := 36) dJ5_charAt_5068e_36 (by decide) ?_
    refine go_iand (y := mJ5_charAt_5068e) (pc := 39) dJ5_charAt_5068e_39 (v := μ 5001 k) (by rw [and255 (by omega)]; unfold ub; rw [if_neg (by omega)]) ?_
    refine go_i2c (y := mJ5_charAt_5068e) (pc := 40) dJ5_charAt_5068e_40 (v := μ 5001 k) (i2c_s (by omega)) ?_
    refine go_nreturn (y := mJ5_charAt_5068e) (pc := 41) dJ5_charAt_5068e_41 rfl (nar_c (by omega)) ?_
    refine ⟨fun w => (by injection w with w; cases w), ?_⟩
    rw [eN, show wr (wr μ 5003 0 1) 5003 0 0 = μ from (by
      funext b j
      by_cases e : b = 5003 ∧ j = 0
      · rw [e.1, e.2, wr_s, h0]
      · rw [wr_n e, wr_n e])]
    exact K
set_option maxRecDepth 8000 in
set_option maxHeartbeats 4000000 in
theorem sb_charAt {μ : Mem} {k : Nat} (h0 : μ 5003 0 = 0) (hk : (k : Int) < μ 5000 0) (hf : μ 5000 0 ≤ μ 5002 0) (hch : chn (μ 5002 0)) (hb : 0 ≤ μ 5001 k ∧ μ 5001 k < 128) {Q : Option Value → Mem → Prop} {X : String → Mem → Prop} (K : Q (some (.int (iI (μ 5001 k)))) μ) : mt 276 3 0 0 mJ4_charAt_5068e [.ref 5000, .int (iI (k : Nat))] Q X μ := by
  show go 276 3 0 0 mJ4_charAt_5068e Q X 0 [.ref 5000, .int (iI (k : Nat))] [] _
  refine go_aload_n (y := mJ4_charAt_5068e) (pc := 0) dJ4_charAt_5068e_0 rfl rfl ?_
  refine go_iload_n (y := mJ4_charAt_5068e) (pc := 1) dJ4_charAt_5068e_1 rfl rfl ?_
  refine go_callSu (y := mJ4_charAt_5068e) (pc := 2) (y' := mJ5_charAt_5068e) (as := [.int (iI (k : Nat))]) (kc2 := 0) (ks2 := 0) dJ4_charAt_5068e_2 rfl ml_J4_329 ok_J5_charAt_5068e sm_J5_charAt_5068e su_J4 (by decide) (by decide) rfl (Nat.le_of_ble_eq_true rfl) (by intro v hv; simp only [List.mem_cons, List.not_mem_nil, or_false] at hv; rw [hv]; rfl) (Nat.le_of_ble_eq_true rfl) (Nat.le_refl _) (by decide) (by decide) (by decide) rfl (sb_charAt5 h0 hk hf hch hb ?_)
  refine go_nreturn (y := mJ4_charAt_5068e) (pc := 5) dJ4_charAt_5068e_5 rfl (nar_c (by omega)) ?_
  exact K
