/-! THE OUTPUT: a letter is written -/
def cpf (c n : Int) : Int := if n ≤ c then c else if n ≤ 46 then 46 else if n ≤ 94 then 94 else if n ≤ 190 then 190 else 382
def kB (c : Int) : Nat := if c = 22 then 4 else if c = 46 then 3 else if c = 94 then 2 else if c = 190 then 1 else 0
def sB (c : Int) : Nat := if c = 22 then 712 else if c = 46 then 666 else if c = 94 then 572 else if c = 190 then 382 else 0
def chn (c : Int) : Prop := c = 22 ∨ c = 46 ∨ c = 94 ∨ c = 190 ∨ c = 382
/-- a row that may grow, or one of 16 that needn't -/
def chk (c n : Int) : Prop := chn c ∨ (c = 16 ∧ n ≤ 16)
theorem cpf_i {c n : Int} (h : n ≤ c) : cpf c n = c := if_pos h
theorem cpf_c {c n : Int} (h : chn c) (hn : n ≤ 382) : chn (cpf c n) ∧ c ≤ cpf c n ∧ n ≤ cpf c n := by
  unfold chn at h ⊢
  unfold cpf
  (repeat' split) <;> omega
theorem cpf_g {c n : Int} (h : chk c n) (h1 : c < n) (h2 : n ≤ 2 * c + 2) (hn : n ≤ 382) : cpf c n = 2 * c + 2 ∧ kB c = kB (2 * c + 2) + 1 ∧ sB c = sB (2 * c + 2) + (2 * c + 2).toNat ∧ (c = 22 ∨ c = 46 ∨ c = 94 ∨ c = 190) := by
  rcases h with h | ⟨h, h9⟩
  · unfold chn at h
    rcases h with rfl | rfl | rfl | rfl | rfl
    · exact ⟨by unfold cpf; rw [if_neg (by omega), if_pos (by omega)]; rfl, by decide, by decide, by decide⟩
    · exact ⟨by unfold cpf; rw [if_neg (by omega), if_neg (by omega), if_pos (by omega)]; rfl, by decide, by decide, by decide⟩
    · exact ⟨by unfold cpf; rw [if_neg (by omega), if_neg (by omega), if_neg (by omega), if_pos (by omega)]; rfl, by decide, by decide, by decide⟩
    · exact ⟨by unfold cpf; rw [if_neg (by omega), if_neg (by omega), if_neg (by omega), if_neg (by omega)]; rfl, by decide, by decide, by decide⟩
    · omega
  · omega
theorem cpf_t {c n m : Int} (h : chn c) (hnm : n ≤ m) (hm : m ≤ 382) : cpf (cpf c n) m = cpf c m := by
  unfold chn at h
  unfold cpf
  (repeat' split) <;> omega
theorem kB_le {c e : Int} (h : chn c) (he : chn e) (hce : c ≤ e) : kB e ≤ kB c ∧ sB e ≤ sB c := by
  unfold chn at h he
  rcases h with rfl | rfl | rfl | rfl | rfl <;> rcases he with rfl | rfl | rfl | rfl | rfl <;> first | decide | omega
/-- the output holds these letters -/
def OL (l : List Int) (μ : Mem) : Prop := μ 5000 0 = (l.length : Nat) ∧ ∀ (j : Nat) (c : Int), l[j]? = some c → μ 5001 j = c
/-- all that lies before the output is the same, and the row's place is any -/
def eqO (μ' μ : Mem) : Prop := (∀ b j, b < 5000 → μ' b j = μ b j) ∧ μ' 5003 0 = 0
theorem eqO_t {a b c : Mem} (h : eqO a b) (g : eqO b c) : eqO a c := ⟨fun r j w => (h.1 r j w).trans (g.1 r j w), h.2⟩
/-- the memory behind a letter -/
def apm (μ : Mem) (c : Int) : Mem := wr (wr (if μ 5000 0 + 1 ≤ μ 5002 0 then μ else grw μ (2 * μ 5002 0 + 2)) 5000 0 (μ 5000 0 + 1)) 5001 (μ 5000 0).toNat c
theorem apm_OL {l : List Int} {μ : Mem} {c : Int} (h : OL l μ) (hf : μ 5000 0 ≤ μ 5002 0) (h0 : μ 5003 0 = 0) (hc : chk (μ 5002 0) ((l.length : Int) + 1)) (hn : (l.length : Int) + 1 ≤ 382) : OL (l ++ [c]) (apm μ c) ∧ eqO (apm μ c) μ ∧ apm μ c 5002 0 = cpf (μ 5002 0) (l.length + 1) := by
  have e : μ 5000 0 = (l.length : Nat) := h.1
  unfold apm
  refine ⟨⟨?_, fun j x hj => ?_⟩, ⟨fun b j hb => ?_, ?_⟩, ?_⟩
  · rw [wr_na (by decide), wr_s, List.length_append]
    show _ = ((l.length + 1 : Nat) : Int)
    omega
  · by_cases g : j < l.length
    · rw [List.getElem?_append_left g] at hj
      rw [wr_ni (by omega), wr_na (by decide)]
      by_cases q : μ 5000 0 + 1 ≤ μ 5002 0
      · rw [if_pos q]
        exact h.2 j x hj
      · rw [if_neg q, grw_1, if_pos (by omega)]
        exact h.2 j x hj
    · rw [List.getElem?_append_right (by omega)] at hj
      have g1 : j - l.length = 0 := by
        have := (List.getElem?_eq_some_iff.mp hj).1
        simp only [List.length_cons, List.length_nil] at this
        omega
      rw [g1] at hj
      have e2 : c = x := by injection hj
      rw [show j = (μ 5000 0).toNat by omega, wr_s]
      exact e2
  · rw [wr_na (by omega), wr_na (by omega)]
    split
    · rfl
    · exact grw_o (by omega)
  · rw [wr_na (by decide), wr_na (by decide)]
    split
    · exact h0
    · exact grw_3
  · rw [wr_na (by decide), wr_na (by decide)]
    by_cases q : μ 5000 0 + 1 ≤ μ 5002 0
    · rw [if_pos q, cpf_i (by omega)]
    · rw [if_neg q, grw_2]
      exact (cpf_g hc (by omega) (by unfold chk chn at hc; omega) hn).1.symm
theorem i2b_n {v : Int} (h : 0 ≤ v ∧ v < 128) : (iI v).toInt8.toInt32 = iI v := by
  rw [i2b_s (by omega)]
  unfold sb
  rw [if_pos (by omega)]
set_option maxRecDepth 8000 in
set_option maxHeartbeats 4000000 in
theorem sb_canEncode {μ : Mem} {c : Int} (hc : 0 ≤ c ∧ c < 128) {Q : Option Value → Mem → Prop} {X : String → Mem → Prop} (K : Q (some (.int (iI 1))) μ) : mt 276 0 0 0 mJ1_canEncode_fc78d [.int (iI c)] Q X μ := by
  show go 276 0 0 0 mJ1_canEncode_fc78d Q X 0 [.int (iI c)] [] _
  refine go_iload_n (y := mJ1_canEncode_fc78d) (pc := 0) dJ1_canEncode_fc78d_0 rfl rfl ?_
  refine go_sipush (y := mJ1_canEncode_fc78d) (pc := 1) dJ1_canEncode_fc78d_1 (by decide) ?_
  refine go_icmp_gt (y := mJ1_canEncode_fc78d) (pc := 4) (tgt := 11) dJ1_canEncode_fc78d_4 (by decide) (by omega) (by omega) (fun h4 => ?_) (fun h4 => ?_)
  · skip
    exact absurd h4 (by omega)
  · skip
    refine go_iconst (y := mJ1_canEncode_fc78d) (pc := 7) dJ1_canEncode_fc78d_7 ?_
    refine go_goto (y := mJ1_canEncode_fc78d) (pc := 8) (tgt := 12) dJ1_canEncode_fc78d_8 (by decide) ?_
    refine go_zreturn (y := mJ1_canEncode_fc78d) (pc := 12) dJ1_canEncode_fc78d_12 rfl (by omega) ?_
    exact K
set_option maxRecDepth 8000 in
set_option maxHeartbeats 4000000 in
theorem sb_apC5 {μ : Mem} {c : Int} {kc ks : Nat} (hc : 0 ≤ c ∧ c < 128) (h0 : μ 5003 0 = 0) (hf : 0 ≤ μ 5000 0 ∧ μ 5000 0 ≤ μ 5002 0) (hch : chk (μ 5002 0) (μ 5000 0 + 1)) (hn : μ 5000 0 + 1 ≤ 382) (hk : kB (μ 5002 0) ≤ kc + kB (cpf (μ 5002 0) (μ 5000 0 + 1))) (hs : sB (μ 5002 0) ≤ ks + sB (cpf (μ 5002 0) (μ 5000 0 + 1))) {Q : Option Value → Mem → Prop} {X : String → Mem → Prop} (K : Q (some (.ref 5000)) (apm μ c)) : mt 276 4 kc ks mJ5_append_3fe6f [.ref 5000, .int (iI c)] Q X μ := by
  show go 276 4 kc ks mJ5_append_3fe6f Q X 0 [.ref 5000, .int (iI c)] [] _
  have hcap : μ 5002 0 = 16 ∨ μ 5002 0 = 22 ∨ μ 5002 0 = 46 ∨ μ 5002 0 = 94 ∨ μ 5002 0 = 190 ∨ μ 5002 0 = 382 := by unfold chk chn at hch; omega
  have J10 : ∀ M : Mem, M 5003 0 = 0 → M 5000 0 = μ 5000 0 → μ 5000 0 + 1 ≤ M 5002 0 → M 5002 0 ≤ 382 → M = (if μ 5000 0 + 1 ≤ μ 5002 0 then μ else grw μ (2 * μ 5002 0 + 2)) → go 276 4 0 0 mJ5_append_3fe6f Q X 10 [.ref 5000, .int (iI c)] [] M := by
    intro M m3 m0 m2 m4 eM
    obtain ⟨k, hk⟩ := Int.eq_ofNat_of_zero_le (show 0 ≤ M 5000 0 by omega)
    refine go_sbin (by decide) (by repeat' first | exact nob_nil | refine nob_int ?_ | refine nob_null ?_ | refine nob_ref (by decide) ?_) (by repeat' first | exact nob_nil | refine nob_int ?_ | refine nob_null ?_ | refine nob_ref (by decide) ?_) ?_
    obtain ⟨N, eN⟩ : ∃ N, N = wr M 5003 0 1 := ⟨_, rfl⟩
    have hm : N 5003 0 ≠ 0 := by rw [eN, wr_s]; decide
    have N2 : N 5002 0 = M 5002 0 := by rw [eN, wr_na (by decide)]
    have N0 : N 5000 0 = M 5000 0 := by rw [eN, wr_na (by decide)]
    refine go_mem eN.symm ?_
    refine go_aload_n (y := mJ5_append_3fe6f) (pc := 10) dJ5_append_3fe6f_10 rfl rfl ?_
    refine go_callO (y := mJ5_append_3fe6f) (pc := 11) (y' := mJ5_isLatin1_aae02) (as := []) (kc2 := 0) (ks2 := 0) dJ5_append_3fe6f_11 rfl ml_J5_83 ok_J5_isLatin1_aae02 se_J5_isLatin1_aae02 (by decide) rfl (Nat.le_of_ble_eq_true rfl) (by intro v hv; simp only [List.mem_cons, List.not_mem_nil, or_false] at hv) (Nat.le_of_ble_eq_true rfl) (Nat.le_refl _) (by decide) (by decide) (by decide) rfl (sb_isLatin1 ?_)
    refine go_if_eq (y := mJ5_append_3fe6f) (pc := 14) (tgt := 45) dJ5_append_3fe6f_14 (by decide) (by omega) (fun h14 => ?_) (fun h14 => ?_)
    · skip
      exact absurd h14 (by decide)
    · skip
      refine go_iload_n (y := mJ5_append_3fe6f) (pc := 17) dJ5_append_3fe6f_17 rfl rfl ?_
      refine go_callS1 (y := mJ5_append_3fe6f) (pc := 18) (y' := mJ1_canEncode_fc78d) (kc2 := 0) (ks2 := 0) dJ5_append_3fe6f_18 ml_J5_191 ok_J1_canEncode_fc78d rfl (by decide) (Nat.le_of_ble_eq_true rfl) rfl (sb_canEncode (by omega) ?_)
      refine go_if_eq (y := mJ5_append_3fe6f) (pc := 21) (tgt := 45) dJ5_append_3fe6f_21 (by decide) (by omega) (fun h21 => ?_) (fun h21 => ?_)
      · skip
        exact absurd h21 (by decide)
      · skip
        refine go_aload_n (y := mJ5_append_3fe6f) (pc := 24) dJ5_append_3fe6f_24 rfl rfl ?_
        refine go_bref (y := mJ5_append_3fe6f) (pc := 25) dJ5_append_3fe6f_25 fk_J5_15 (by decide) hm ?_
        refine go_aload_n (y := mJ5_append_3fe6f) (pc := 28) dJ5_append_3fe6f_28 rfl rfl ?_
        refine go_dup (y := mJ5_append_3fe6f) (pc := 29) dJ5_append_3fe6f_29 rfl ?_
        refine go_bcnt (y := mJ5_append_3fe6f) (pc := 30) dJ5_append_3fe6f_30 fk_J5_79 (by decide) ?_
        refine go_top (b := M 5000 0) (N0) (fun t30 => ?_)
        refine go_dupx1 (y := mJ5_append_3fe6f) (pc := 33) dJ5_append_3fe6f_33 ?_
        refine go_iconst (y := mJ5_append_3fe6f) (pc := 34) dJ5_append_3fe6f_34 ?_
        refine go_iadd (y := mJ5_append_3fe6f) (pc := 35) dJ5_append_3fe6f_35 ?_
        refine go_bsetc (y := mJ5_append_3fe6f) (pc := 36) dJ5_append_3fe6f_36 fk_J5_79 (by decide) (by rw [N2]; omega) ?_
        refine go_iload_n (y := mJ5_append_3fe6f) (pc := 39) dJ5_append_3fe6f_39 rfl rfl ?_
        refine go_i2b (y := mJ5_append_3fe6f) (pc := 40) dJ5_append_3fe6f_40 (v := c) (i2b_n hc) ?_
        refine go_bsta (y := mJ5_append_3fe6f) (pc := 41) (k := k) dJ5_append_3fe6f_41 (by decide) (by rw [wr_na (by decide)]; exact hm) hk (by rw [wr_na (by decide), N2]; omega) (by omega) ?_
        refine go_goto (y := mJ5_append_3fe6f) (pc := 42) (tgt := 75) dJ5_append_3fe6f_42 (by decide) ?_
        refine go_aload_n (y := mJ5_append_3fe6f) (pc := 75) dJ5_append_3fe6f_75 rfl rfl ?_
        refine go_areturn (y := mJ5_append_3fe6f) (pc := 76) dJ5_append_3fe6f_76 rfl (Or.inl ⟨_, rfl⟩) ?_
        refine ⟨fun w => (by injection w with w; injection w with w; exact absurd w (by decide)), ?_⟩
        rw [show wr (wr (wr N 5000 0 (M 5000 0 + 1)) 5001 k c) 5003 0 0 = apm μ c from ?_]
        · exact K
        · unfold apm
          rw [← eM, eN, ← m0, show (M 5000 0).toNat = k by omega]
          funext b j
          by_cases e : b = 5003 ∧ j = 0
          · rw [e.1, e.2, wr_s, wr_na (by decide), wr_na (by decide), m3]
          · rw [wr_n e]
            by_cases e1 : b = 5001 ∧ j = k
            · rw [e1.1, e1.2, wr_s, wr_s]
            · rw [wr_n e1, wr_n e1]
              by_cases e2 : b = 5000 ∧ j = 0
              · rw [e2.1, e2.2, wr_s, wr_s]
              · rw [wr_n e2, wr_n e2, wr_n e]
  by_cases g : μ 5000 0 + 1 ≤ μ 5002 0
  · skip
    refine go_aload_n (y := mJ5_append_3fe6f) (pc := 0) dJ5_append_3fe6f_0 rfl rfl ?_
    refine go_aload_n (y := mJ5_append_3fe6f) (pc := 1) dJ5_append_3fe6f_1 rfl rfl ?_
    refine go_bcnt (y := mJ5_append_3fe6f) (pc := 2) dJ5_append_3fe6f_2 fk_J5_79 (by decide) ?_
    refine go_top (b := μ 5000 0) (rfl) (fun t2 => ?_)
    refine go_iconst (y := mJ5_append_3fe6f) (pc := 5) dJ5_append_3fe6f_5 ?_
    refine go_iadd (y := mJ5_append_3fe6f) (pc := 6) dJ5_append_3fe6f_6 ?_
    refine go_callO (y := mJ5_append_3fe6f) (pc := 7) (y' := mJ5_ensureCapacityInternal_d00df) (as := [.int (iI ((μ 5000 0) + 1))]) (kc2 := 0) (ks2 := 0) dJ5_append_3fe6f_7 rfl ml_J5_100 ok_J5_ensureCapacityInternal_d00df se_J5_ensureCapacityInternal_d00df (by decide) rfl (Nat.le_of_ble_eq_true rfl) (by intro v hv; simp only [List.mem_cons, List.not_mem_nil, or_false] at hv; rw [hv]; rfl) (Nat.le_of_ble_eq_true rfl) (Nat.le_refl _) (by decide) (Nat.zero_le _) (Nat.zero_le _) rfl (sb_ens0 h0 (by omega) ?_)
    exact J10 μ h0 rfl g (by omega) (if_pos g).symm
  · skip
    obtain ⟨g1, g2, g3, g4⟩ := cpf_g hch (show μ 5002 0 < μ 5000 0 + 1 by omega) (by omega) hn
    rw [g1] at hk hs
    refine go_aload_n (y := mJ5_append_3fe6f) (pc := 0) dJ5_append_3fe6f_0 rfl rfl ?_
    refine go_aload_n (y := mJ5_append_3fe6f) (pc := 1) dJ5_append_3fe6f_1 rfl rfl ?_
    refine go_bcnt (y := mJ5_append_3fe6f) (pc := 2) dJ5_append_3fe6f_2 fk_J5_79 (by decide) ?_
    refine go_top (b := μ 5000 0) (rfl) (fun t2 => ?_)
    refine go_iconst (y := mJ5_append_3fe6f) (pc := 5) dJ5_append_3fe6f_5 ?_
    refine go_iadd (y := mJ5_append_3fe6f) (pc := 6) dJ5_append_3fe6f_6 ?_
    refine go_callO (y := mJ5_append_3fe6f) (pc := 7) (y' := mJ5_ensureCapacityInternal_d00df) (as := [.int (iI ((μ 5000 0) + 1))]) (kc2 := 0) (ks2 := 0) dJ5_append_3fe6f_7 rfl ml_J5_100 ok_J5_ensureCapacityInternal_d00df se_J5_ensureCapacityInternal_d00df (by decide) rfl (Nat.le_of_ble_eq_true rfl) (by intro v hv; simp only [List.mem_cons, List.not_mem_nil, or_false] at hv; rw [hv]; rfl) (Nat.le_of_ble_eq_true rfl) (Nat.le_refl _) (by decide) (show 1 + 0 ≤ kc by omega) (show (2 * μ 5002 0 + 2).toNat + 0 ≤ ks by omega) rfl (sb_ens1 (ks := (2 * μ 5002 0 + 2).toNat) (Nat.le_refl _) h0 (by omega) g4 ?_)
    exact J10 _ grw_3 (grw_o (by decide)) (by rw [grw_2]; omega) (by rw [grw_2]; omega) (if_neg g).symm
set_option maxRecDepth 8000 in
set_option maxHeartbeats 4000000 in
theorem sb_apC {μ : Mem} {c : Int} {kc ks : Nat} (hc : 0 ≤ c ∧ c < 128) (h0 : μ 5003 0 = 0) (hf : 0 ≤ μ 5000 0 ∧ μ 5000 0 ≤ μ 5002 0) (hch : chk (μ 5002 0) (μ 5000 0 + 1)) (hn : μ 5000 0 + 1 ≤ 382) (hk : kB (μ 5002 0) ≤ kc + kB (cpf (μ 5002 0) (μ 5000 0 + 1))) (hs : sB (μ 5002 0) ≤ ks + sB (cpf (μ 5002 0) (μ 5000 0 + 1))) {Q : Option Value → Mem → Prop} {X : String → Mem → Prop} (K : Q (some (.ref 5000)) (apm μ c)) : mt 276 5 kc ks mJ4_append_cf468 [.ref 5000, .int (iI c)] Q X μ := by
  show go 276 5 kc ks mJ4_append_cf468 Q X 0 [.ref 5000, .int (iI c)] [] _
  refine go_aload_n (y := mJ4_append_cf468) (pc := 0) dJ4_append_cf468_0 rfl rfl ?_
  refine go_iload_n (y := mJ4_append_cf468) (pc := 1) dJ4_append_cf468_1 rfl rfl ?_
  refine go_callSu (y := mJ4_append_cf468) (pc := 2) (y' := mJ5_append_3fe6f) (as := [.int (iI c)]) (kc2 := 0) (ks2 := 0) dJ4_append_cf468_2 rfl ml_J4_50 ok_J5_append_3fe6f sm_J5_append_3fe6f su_J4 (by decide) (by decide) rfl (Nat.le_of_ble_eq_true rfl) (by intro v hv; simp only [List.mem_cons, List.not_mem_nil, or_false] at hv; rw [hv]; rfl) (Nat.le_of_ble_eq_true rfl) (Nat.le_refl _) (by decide) (Nat.le_refl _) (Nat.le_refl _) rfl (sb_apC5 (kc := kc) (ks := ks) hc h0 hf hch hn hk hs ?_)
  refine go_pop (y := mJ4_append_cf468) (pc := 5) dJ4_append_cf468_5 rfl ?_
  refine go_aload_n (y := mJ4_append_cf468) (pc := 6) dJ4_append_cf468_6 rfl rfl ?_
  refine go_areturn (y := mJ4_append_cf468) (pc := 7) dJ4_append_cf468_7 rfl (Or.inl ⟨_, rfl⟩) ?_
  exact K
