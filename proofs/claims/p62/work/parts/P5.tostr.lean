/-! A BUILDER'S TEXT -/
theorem ml_J0_1 : Cond.methodLink RJ0 1 Lib.objectInit ∈ aw := tb_in 1608 (by decide +kernel) (by decide +kernel)
theorem sl_len : Cond.selects RJ4 yJ5_length_8abf5 yJ4_length_8abf5 ∈ aw := tb_in 1617 (by decide +kernel) (by decide +kernel)
theorem cl_J4_18 : Cond.classLink RJ4 18 RJ0 ∈ aw := tb_in 1600 (by decide +kernel) (by decide +kernel)
theorem cl_J7_311 : Cond.classLink RJ7 311 "[B" ∈ aw := tb_in 1495 (by decide +kernel) (by decide +kernel)
theorem ml_J7_310 : Cond.methodLink RJ7 310 ⟨"[B", "clone", "()Ljava/lang/Object;"⟩ ∈ aw := tb_in 1489 (by decide +kernel) (by decide +kernel)
theorem in_J0 : Cond.instantiable RJ0 4 ∈ aw := tb_in 1601 (by decide +kernel) (by decide +kernel)
section ToStr0
variable {μ : Mem} {Q : Option Value → Mem → Prop} {X : String → Mem → Prop}
theorem sb_len5 (K : Q (some (.int (iI (μ 5000 0)))) μ) : mt 276 0 0 0 mJ5_length_8abf5 [.ref 5000] Q X μ := by
  show go 276 0 0 0 mJ5_length_8abf5 Q X 0 [.ref 5000] [] _
  refine go_aload_n (y := mJ5_length_8abf5) (pc := 0) dJ5_length_8abf5_0 rfl rfl ?_
  refine go_bcnt (y := mJ5_length_8abf5) (pc := 1) dJ5_length_8abf5_1 fk_J5_79 (by decide) ?_
  exact go_ireturn (y := mJ5_length_8abf5) (pc := 4) dJ5_length_8abf5_4 rfl K
theorem sb_len (K : Q (some (.int (iI (μ 5000 0)))) μ) : mt 276 1 0 0 mJ4_length_8abf5 [.ref 5000] Q X μ := by
  show go 276 1 0 0 mJ4_length_8abf5 Q X 0 [.ref 5000] [] _
  refine go_aload_n (y := mJ4_length_8abf5) (pc := 0) dJ4_length_8abf5_0 rfl rfl ?_
  refine go_callSu (y := mJ4_length_8abf5) (pc := 1) (y' := mJ5_length_8abf5) (as := []) (kc2 := 0) (ks2 := 0) dJ4_length_8abf5_1 rfl ml_J4_343 ok_J5_length_8abf5 sm_J5_length_8abf5 su_J4 (by decide) (by decide) rfl (Nat.le_of_ble_eq_true rfl) (by intro v hv; simp only [List.mem_cons, List.not_mem_nil, or_false] at hv) (Nat.le_of_ble_eq_true rfl) (Nat.le_refl _) (by decide) (by decide) (by decide) rfl (sb_len5 ?_)
  exact go_ireturn (y := mJ4_length_8abf5) (pc := 4) dJ4_length_8abf5_4 rfl K
theorem sb_val (hm : μ 5003 0 ≠ 0) (K : Q (some (.ref 5001)) μ) : mt 276 0 0 0 mJ5_getValue_6d5f1 [.ref 5000] Q X μ := by
  show go 276 0 0 0 mJ5_getValue_6d5f1 Q X 0 [.ref 5000] [] _
  refine go_aload_n (y := mJ5_getValue_6d5f1) (pc := 0) dJ5_getValue_6d5f1_0 rfl rfl ?_
  refine go_bref (y := mJ5_getValue_6d5f1) (pc := 1) dJ5_getValue_6d5f1_1 fk_J5_15 (by decide) hm ?_
  exact go_areturn (y := mJ5_getValue_6d5f1) (pc := 4) dJ5_getValue_6d5f1_4 rfl (Or.inr ⟨_, rfl⟩) K
theorem sb_chk {z n : Nat} (hn : (n : Int) < 2147483648) (K : Q none μ) : mt z 0 0 0 mJ7_checkLength_df160 [.int (iI 0), .int (iI (n : Nat))] Q X μ := by
  show go z 0 0 0 mJ7_checkLength_df160 Q X 0 [.int (iI 0), .int (iI (n : Nat))] [] _
  refine go_iload_n (y := mJ7_checkLength_df160) (pc := 0) dJ7_checkLength_df160_0 rfl rfl ?_
  refine go_iload_n (y := mJ7_checkLength_df160) (pc := 1) dJ7_checkLength_df160_1 rfl rfl ?_
  refine go_icmp_ge (y := mJ7_checkLength_df160) (pc := 2) (tgt := 37) dJ7_checkLength_df160_2 (by decide) ⟨by omega, by omega⟩ rng0 (fun _ => ?_) (fun h => absurd h (by omega))
  exact go_return (y := mJ7_checkLength_df160) (pc := 37) dJ7_checkLength_df160_37 rfl K
end ToStr0
/-- a row copied -/
def Rcr (cy : Nat → ClassId) (ad : Nat → Nat) (μ : Mem) (n : Nat) : Option Value → (Nat → Nat) → Mem → va_W → Prop := fun r ad' μ' G' => ∃ (a1 : Nat) (f : Nat → Int32), r = some (.ref 406) ∧ ad' = ad1 ad 406 a1 ∧ μ' = μ ∧ G' = [(a1, .inl (cy 2, n, .inl f))] ∧ ∀ j, j < n → f j = iI (μ 5001 j)
/-- a text made of the builder's letters -/
def Rst (cy : Nat → ClassId) (ad : Nat → Nat) (a : Nat) (μ : Mem) (n : Nat) : Option Value → (Nat → Nat) → Mem → va_W → Prop := fun r ad' μ' G' => ∃ (a1 : Nat) (f : Nat → Int32), r = none ∧ (∀ k, k < 293 ∨ k = 405 ∨ k = 5000 ∨ k = 5005 ∨ 6000 ≤ k → ad' k = ad k) ∧ ad' 406 = a1 ∧ (∀ b j, (b ≠ 5003 ∨ j ≠ 0) → μ' b j = μ b j) ∧ μ' 5003 0 = 0 ∧ G' = [(a1, .inl (cy 2, n, .inl f)), (a, .inr (0, [.ref a1, .int (iI 0), .int (iI 0), .int (iI 0)]))] ∧ ∀ j, j < n → f j = iI (μ 5001 j)
section ToStr
variable {D : va_G} {cy : Nat → ClassId} {X0 : Nat → Prop} {ad : Nat → Nat} {a n : Nat} {μ : Mem}
theorem cr_by (hm : μ 5003 0 ≠ 0) (hn : (n : Int) ≤ μ 5002 0) (h382 : n ≤ 382) : gl D cy X0 293 ad [] 1 1 n mJ7_copyOfRangeByte_39247 (cR D cy X0 293 (Rcr cy ad μ n)) noX 0 [.ref 5001, .int (iI 0), .int (iI (n : Nat)), .null, .null] [] μ := by
  refine gl_iload_n dJ7_copyOfRangeByte_39247_0 rfl rfl ?_
  refine gl_iload_n dJ7_copyOfRangeByte_39247_1 rfl rfl ?_
  refine gl_callS (z' := 0) (d' := 0) (kc' := 0) (ks' := 0) (kc2 := 1) (ks2 := n) (y' := mJ7_checkLength_df160) (as := [.int (iI 0), .int (iI (n : Nat))]) (rest := []) dJ7_copyOfRangeByte_39247_2 rfl ml_J7_343 (Or.inl rfl) (mS0 ok_J7_checkLength_df160) rfl (by decide) (by simp [Value.category]) (by decide) (Nat.zero_le _) (by decide) (by omega) (by omega) (sb_chk (by omega) ?_)
  refine gl_iload_n dJ7_copyOfRangeByte_39247_5 rfl rfl ?_
  refine gl_iload_n dJ7_copyOfRangeByte_39247_6 rfl rfl ?_
  refine gl_isub dJ7_copyOfRangeByte_39247_7 ?_
  refine gl_top (b := (n : Int)) (by omega) (fun _ => ?_)
  refine gl_istore_n dJ7_copyOfRangeByte_39247_8 rfl (show (3 : Nat) < 5 by decide) ?_
  refine gl_iload_n dJ7_copyOfRangeByte_39247_9 rfl rfl ?_
  refine gl_less (kc' := 0 + 1) (ks' := 0 + n) (Nat.le_refl _) (by omega) ?_
  refine gl_newBy (q := 406) (N := n) (kc := 0) (ks := 0) fq406 dJ7_copyOfRangeByte_39247_10 rfl (by omega) (by decide) (nok_ref (by decide) (nok_int (nok_int (nok_int (nok_null nok_nil))))) nok_nil (fun a1 => ?_)
  refine gl_astore dJ7_copyOfRangeByte_39247_12 (show (4 : Nat) < 5 by decide) ?_
  refine gl_aload_n dJ7_copyOfRangeByte_39247_14 rfl rfl ?_
  refine gl_iload_n dJ7_copyOfRangeByte_39247_15 rfl rfl ?_
  refine gl_aload dJ7_copyOfRangeByte_39247_16 rfl ?_
  refine gl_iconst dJ7_copyOfRangeByte_39247_18 ?_
  refine gl_aload_n dJ7_copyOfRangeByte_39247_19 rfl rfl ?_
  refine gl_balen (by decide) dJ7_copyOfRangeByte_39247_20 hm ?_
  refine gl_iload_n dJ7_copyOfRangeByte_39247_21 rfl rfl ?_
  refine gl_isub dJ7_copyOfRangeByte_39247_22 ?_
  refine gl_iload_n dJ7_copyOfRangeByte_39247_23 rfl rfl ?_
  refine gl_rng (fun hR => ?_)
  have r2 := hR 5002 0
  unfold rng at r2
  refine gl_mmin dJ7_copyOfRangeByte_39247_24 ml_J7_304 (by decide) (by decide) ⟨by omega, by omega⟩ ⟨by omega, by omega⟩ ?_
  refine gl_top (b := (n : Int)) (by omega) (fun _ => ?_)
  refine gl_cpB (by decide) dJ7_copyOfRangeByte_39247_27 ml_J7_150 hm ad1_s rfl hn (by decide) (by decide) ?_
  refine gl_aload dJ7_copyOfRangeByte_39247_30 rfl ?_
  refine gl_areturnR dJ7_copyOfRangeByte_39247_32 rfl (Or.inr ⟨_, rfl⟩) ⟨a1, _, rfl, rfl, rfl, rfl, fun j hj => ?_⟩
  rw [pk_cpy_in (Nat.zero_le _) (by omega)]
  rw [Nat.zero_add, Nat.sub_zero]
end ToStr
