/-! THE CLASS WRITES: letters, numbers, names -/
theorem grw_put {σ μ : Mem} {q : Int} : grw (put 20 σ μ) q = put 20 σ (grw μ q) := by
  funext b j
  by_cases h : 20 ≤ b ∧ b < 41
  · rw [grw_o (by omega)]
    unfold put
    rw [if_pos (by omega), if_pos (by omega)]
  · rw [put_o (by omega)]
    unfold grw
    rw [put_o (show (5002 : Nat) < 20 ∨ 20 + 21 ≤ 5002 by decide), put_o (show (5001 : Nat) < 20 ∨ 20 + 21 ≤ 5001 by decide), put_o (show b < 20 ∨ 20 + 21 ≤ b by omega)]
theorem apm_put {σ μ : Mem} {c : Int} : apm (put 20 σ μ) c = put 20 σ (apm μ c) := by
  unfold apm
  rw [put_o (show (5000 : Nat) < 20 ∨ 20 + 21 ≤ 5000 by decide), put_o (show (5002 : Nat) < 20 ∨ 20 + 21 ≤ 5002 by decide), grw_put]
  split
  · rw [put_wo (by decide), put_wo (by decide)]
  · rw [put_wo (by decide), put_wo (by decide)]
theorem gcm_put {σ μ : Mem} {v p : Nat} : gcm (put 20 σ μ) v p = put 20 σ (gcm μ v p) := by
  unfold gcm
  split
  · rw [put_wo (by decide)]
  · rw [put_wo (by decide), put_wo (by decide)]
theorem apn_put {σ μ : Mem} {v : Nat} : apn (put 20 σ μ) v = put 20 σ (apn μ v) := by
  unfold apn
  rw [put_o (show (5000 : Nat) < 20 ∨ 20 + 21 ≤ 5000 by decide), put_o (show (5002 : Nat) < 20 ∨ 20 + 21 ≤ 5002 by decide), grw_put]
  split
  · rw [gcm_put, put_wo (by decide)]
  · rw [gcm_put, put_wo (by decide)]
/-- the output holds l, may grow to E, with kc cells of ks slots -/
def Bnd (l : List Int) (E : Int) (kc ks : Nat) (μ : Mem) : Prop := OL l μ ∧ μ 5003 0 = 0 ∧ chn (μ 5002 0) ∧ chn E ∧ μ 5002 0 ≤ E ∧ kB (μ 5002 0) ≤ kc + kB E ∧ sB (μ 5002 0) ≤ ks + sB E ∧ μ 5000 0 ≤ μ 5002 0
theorem cpf_le {c n e : Int} (h : chn c) (he : chn e) (hce : c ≤ e) (hn : n ≤ e) : cpf c n ≤ e := by
  unfold chn at h he
  unfold cpf
  (repeat' split) <;> omega
theorem cpf_min {c c' n : Int} (h : chn c) (h' : chn c') (h1 : c ≤ c') (h2 : n ≤ c') (h3 : c' ≤ cpf c n) : c' = cpf c n := by
  unfold chn at h h'
  unfold cpf at h3 ⊢
  (repeat' split at h3) <;> (repeat' split) <;> omega
theorem chn_b {c : Int} (h : chn c) : 16 ≤ c ∧ c ≤ 142 := by unfold chn at h; omega
/-- the room of a call that writes w, and what is left behind it -/
theorem bud {l w : List Int} {E : Int} {kc ks : Nat} {μ : Mem} (hB : Bnd l E kc ks μ) (hn : ((l ++ w).length : Int) ≤ E) : ∃ kc' ks' kc2 ks2 : Nat, kc' + kc2 ≤ kc ∧ ks' + ks2 ≤ ks ∧ kB (μ 5002 0) ≤ kc' + kB (cpf (μ 5002 0) (l ++ w).length) ∧ sB (μ 5002 0) ≤ ks' + sB (cpf (μ 5002 0) (l ++ w).length) ∧
    (Bnd l (cpf (μ 5002 0) (l ++ w).length) kc' ks' μ) ∧ ∀ μ', OL (l ++ w) μ' → μ' 5003 0 = 0 → μ' 5002 0 = cpf (μ 5002 0) (l ++ w).length → Bnd (l ++ w) E kc2 ks2 μ' := by
  obtain ⟨b1, b2, b3, b4, b5, b6, b7, b8⟩ := hB
  have hE := chn_b b4
  obtain ⟨c1, c2, c3⟩ := cpf_c (n := ((l ++ w).length : Nat)) b3 (by omega)
  have c4 := cpf_le (n := ((l ++ w).length : Nat)) b3 b4 b5 hn
  obtain ⟨k1, k2⟩ := kB_le b3 c1 c2
  obtain ⟨k3, k4⟩ := kB_le c1 b4 c4
  refine ⟨kB (μ 5002 0) - kB (cpf (μ 5002 0) (l ++ w).length), sB (μ 5002 0) - sB (cpf (μ 5002 0) (l ++ w).length), kc - (kB (μ 5002 0) - kB (cpf (μ 5002 0) (l ++ w).length)), ks - (sB (μ 5002 0) - sB (cpf (μ 5002 0) (l ++ w).length)), by omega, by omega, by omega, by omega, ⟨b1, b2, b3, c1, c2, by omega, by omega, b8⟩, fun μ' h1 h2 h3 => ?_⟩
  refine ⟨h1, h2, by rw [h3]; exact c1, b4, by rw [h3]; exact c4, by rw [h3]; omega, by rw [h3]; omega, ?_⟩
  rw [h3, h1.1]
  exact c3
section Wr
variable {z d kc ks : Nat} {y : MI} {Q : Option Value → Mem → Prop} {X : String → Mem → Prop} {pc : Nat} {ls rest : List Value} {σ μ : Mem} {l : List Int} {E : Int} {idx : Nat}
theorem go_wC {c : Int} (hd : decode y.2.1 pc = .ok (.invokevirtual idx, 3)) (hlk : Cond.methodLink y.1.cls idx yJ4_append_cf468 ∈ aw) (hz : 276 ≤ z) (hdd : 6 ≤ d) (hW : (rest.map fun v => v.category).sum ≤ 8) (hh : y.2.2.2.2.1 = []) (hc : 0 ≤ c ∧ c < 128) (hB : Bnd l E kc ks μ) (hn : (l.length : Int) + 1 ≤ E)
    (K : ∀ μ' kc2 ks2, Bnd (l ++ [c]) E kc2 ks2 μ' → eqO μ' μ → μ 5002 0 ≤ μ' 5002 0 → go z d kc2 ks2 y Q X (pc + 3) ls (.ref 5000 :: rest) (put 20 σ μ')) : go z d kc ks y Q X pc ls (.int (iI c) :: .ref 5000 :: rest) (put 20 σ μ) := by
  have el : (((l ++ [c]).length : Nat) : Int) = (l.length : Int) + 1 := by rw [List.length_append]; rfl
  obtain ⟨kc', ks', kc2, ks2, u1, u2, u3, u4, u5, u6⟩ := bud (w := [c]) hB (by rw [el]; exact hn)
  obtain ⟨b1, b2, b3, b4, b5, b6, b7, b8⟩ := hB
  have hE := chn_b b4
  have e0 : put 20 σ μ 5000 0 = μ 5000 0 := put_o (by decide)
  have e2 : put 20 σ μ 5002 0 = μ 5002 0 := put_o (by decide)
  have e3 : put 20 σ μ 5003 0 = μ 5003 0 := put_o (by decide)
  rw [el] at u3 u4 u6
  refine go_callO (y' := mJ4_append_cf468) (as := [.int (iI c)]) (z' := 276) (d' := 5) (kc' := kc') (ks' := ks') (kc2 := kc2) (ks2 := ks2) hd rfl hlk ok2_J4_append_cf468 se_J4_append_cf468 hz rfl (Nat.le_of_ble_eq_true rfl) (by intro v hv; simp only [List.mem_cons, List.not_mem_nil, or_false] at hv; rw [hv]; rfl) hW hz (by omega) u1 u2 hh ?_
  refine sb_apC hc (by rw [e3]; exact b2) (by rw [e0, e2, b1.1]; rw [b1.1] at b8; omega) (by rw [e2]; exact b3) (by rw [e0, b1.1]; omega) (by rw [e0, e2, b1.1]; exact u3) (by rw [e0, e2, b1.1]; exact u4) ?_
  obtain ⟨a1, a2, a3⟩ := apm_OL (c := c) b1 b8 b2 b3 (by omega)
  rw [apm_put]
  exact K _ _ _ (u6 _ a1 a2.2 a3) a2 (by rw [a3]; exact (cpf_c b3 (by omega)).2.1)
theorem go_wI {v : Nat} (hd : decode y.2.1 pc = .ok (.invokevirtual idx, 3)) (hlk : Cond.methodLink y.1.cls idx yJ4_append_bf812 ∈ aw) (hz : 276 ≤ z) (hdd : 6 ≤ d) (hW : (rest.map fun v => v.category).sum ≤ 8) (hh : y.2.2.2.2.1 = []) (hv : v < 100) (hB : Bnd l E kc ks μ) (hn : (((l ++ dgl v).length : Nat) : Int) ≤ E)
    (K : ∀ μ' kc2 ks2, Bnd (l ++ dgl v) E kc2 ks2 μ' → eqO μ' μ → μ 5002 0 ≤ μ' 5002 0 → go z d kc2 ks2 y Q X (pc + 3) ls (.ref 5000 :: rest) (put 20 σ μ')) : go z d kc ks y Q X pc ls (.int (iI (v : Nat)) :: .ref 5000 :: rest) (put 20 σ μ) := by
  obtain ⟨kc', ks', kc2, ks2, u1, u2, u3, u4, u5, u6⟩ := bud (w := dgl v) hB hn
  obtain ⟨b1, b2, b3, b4, b5, b6, b7, b8⟩ := hB
  have hE := chn_b b4
  have e0 : put 20 σ μ 5000 0 = μ 5000 0 := put_o (by decide)
  have e2 : put 20 σ μ 5002 0 = μ 5002 0 := put_o (by decide)
  have e3 : put 20 σ μ 5003 0 = μ 5003 0 := put_o (by decide)
  have el : (((l ++ dgl v).length : Nat) : Int) = (l.length : Int) + ((dgl v).length : Nat) := by rw [List.length_append]; omega
  refine go_callO (y' := mJ4_append_bf812) (as := [.int (iI (v : Nat))]) (z' := 276) (d' := 5) (kc' := kc') (ks' := ks') (kc2 := kc2) (ks2 := ks2) hd rfl hlk ok2_J4_append_bf812 se_J4_append_bf812 hz rfl (Nat.le_of_ble_eq_true rfl) (by intro v hv; simp only [List.mem_cons, List.not_mem_nil, or_false] at hv; rw [hv]; rfl) hW hz (by omega) u1 u2 hh ?_
  refine sb_apI hv (by rw [e3]; exact b2) (by rw [e0, e2, b1.1]; rw [b1.1] at b8; omega) (by rw [e2]; exact b3) (by rw [e0, b1.1]; omega) (by rw [e0, e2, b1.1, ← el]; exact u3) (by rw [e0, e2, b1.1, ← el]; exact u4) ?_
  obtain ⟨a1, a2, a3⟩ := apn_OL (v := v) b1 b8 b2 b3 (by omega)
  rw [apn_put]
  exact K _ _ _ (u6 _ a1 a2.2 a3) a2 (by rw [a3]; exact (cpf_c b3 (by omega)).2.1)
end Wr
/-! letters of a name, base 32 -/
def nml : Nat → Int → List Int
  | 0, _ => []
  | k + 1, x => if x = 0 then [] else nml k (x / 32) ++ [96 + x % 32]
def ltl : Nat → Int → List Int
  | 0, _ => []
  | k + 1, x => ltl k (x / 32) ++ (if x % 32 = 0 then [] else [96 + x % 32])
theorem ltl_0 : ∀ k, ltl k 0 = []
  | 0 => rfl
  | k + 1 => by
    rw [ltl, show (0 : Int) / 32 = 0 from rfl, ltl_0 k]
    rfl
theorem ltl_nml : ∀ (k : Nat) (x : Int), isn k x → ltl k x = nml k x
  | 0, _, _ => rfl
  | k + 1, x, h => by
    rcases h with h | ⟨h1, h2, h3, h4⟩
    · rw [h, ltl_0]
      rfl
    · rw [ltl, nml, if_neg (by omega), if_neg (by omega), ltl_nml k _ h4]
theorem isn_lt : ∀ (k : Nat) (x : Int), isn k x → x < (32 : Int) ^ k
  | 0, x, h => by
    have h9 : x = 0 := h
    rw [h9]
    decide
  | k + 1, x, h => by
    have p : (0 : Int) < (32 : Int) ^ k := Int.pow_pos (by decide)
    rw [Int.pow_succ]
    rcases h with h | ⟨h1, h2, h3, h4⟩
    · omega
    · have h9 := isn_lt k _ h4
      omega
theorem nml_len : ∀ (k : Nat) (x : Int), (nml k x).length ≤ k
  | 0, _ => Nat.le_refl 0
  | k + 1, x => by
    rw [nml]
    split
    · exact Nat.zero_le _
    · rw [List.length_append]
      have := nml_len k (x / 32)
      simp only [List.length_cons, List.length_nil]
      omega
theorem iI_natW {n : Nat} (h : n < 2147483648) : (iI (n : Int)).toBitVec.toNat = n := by
  rw [← iI_of h]
  exact pk_tn (by omega)
theorem and31 {a : Int} (h : 0 ≤ a ∧ a < 2147483648) : iI a &&& iI 31 = iI (a % 32) := by
  apply i32_ext
  show ((iI a).toBitVec &&& (iI 31).toBitVec).toNat = _
  rw [BitVec.toNat_and, show (iI 31).toBitVec.toNat = 2 ^ 5 - 1 by decide +kernel, Nat.and_two_pow_sub_one_eq_mod]
  have e1 : (iI a).toBitVec.toNat = a.toNat := by
    rw [show iI a = iI ((a.toNat : Nat) : Int) by congr 1; omega]
    exact iI_natW (by omega)
  have e2 : (iI (a % 32)).toBitVec.toNat = (a % 32).toNat := by
    rw [show iI (a % 32) = iI (((a % 32).toNat : Nat) : Int) by congr 1; omega]
    exact iI_natW (by omega)
  rw [e1, e2]
  omega
theorem ush5 {x : Int} (h : 0 ≤ x ∧ x < 1073741824) {i : Nat} (hi : i < 6) : ((iI x).toUInt32 >>> ((iI (5 * (i : Int))).toUInt32 &&& Int32.toUInt32 31)).toInt32 = iI (x / 32 ^ i) := by
  apply i32_ext
  have e1 : (iI x).toBitVec.toNat = x.toNat := by
    rw [show iI x = iI ((x.toNat : Nat) : Int) by congr 1; omega]
    exact iI_natW (by omega)
  have d0 : 0 ≤ x / 32 ^ i := Int.ediv_nonneg h.1 (Int.le_of_lt (Int.pow_pos (by decide)))
  have d1 : x / 32 ^ i ≤ x := Int.ediv_le_self _ h.1
  have e2 : (iI (x / 32 ^ i)).toBitVec.toNat = (x / 32 ^ i).toNat := by
    rw [show iI (x / 32 ^ i) = iI (((x / 32 ^ i).toNat : Nat) : Int) by congr 1; omega]
    exact iI_natW (by omega)
  rw [ush_nat, e1, e2]
  have hi6 : i = 0 ∨ i = 1 ∨ i = 2 ∨ i = 3 ∨ i = 4 ∨ i = 5 := by omega
  rcases hi6 with rfl | rfl | rfl | rfl | rfl | rfl
  · rw [show ((iI (5 * ((0 : Nat) : Int))).toUInt32 &&& Int32.toUInt32 31).toNat % 32 = 0 by decide +kernel]
    omega
  · rw [show ((iI (5 * ((1 : Nat) : Int))).toUInt32 &&& Int32.toUInt32 31).toNat % 32 = 5 by decide +kernel]
    omega
  · rw [show ((iI (5 * ((2 : Nat) : Int))).toUInt32 &&& Int32.toUInt32 31).toNat % 32 = 10 by decide +kernel]
    omega
  · rw [show ((iI (5 * ((3 : Nat) : Int))).toUInt32 &&& Int32.toUInt32 31).toNat % 32 = 15 by decide +kernel]
    omega
  · rw [show ((iI (5 * ((4 : Nat) : Int))).toUInt32 &&& Int32.toUInt32 31).toNat % 32 = 20 by decide +kernel]
    omega
  · rw [show ((iI (5 * ((5 : Nat) : Int))).toUInt32 &&& Int32.toUInt32 31).toNat % 32 = 25 by decide +kernel]
    omega
