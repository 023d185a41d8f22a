/-! A BUILDER'S TEXT: toString -/
section ToStr2
variable {D : va_G} {cy : Nat → ClassId} {X0 : Nat → Prop} {ad : Nat → Nat} {a n : Nat} {μ : Mem}
theorem cr_of (hm : μ 5003 0 ≠ 0) (hn : (n : Int) ≤ μ 5002 0) (h382 : n ≤ 382) : gl D cy X0 293 ad [] 2 1 n mJ7_copyOfRange_39247 (cR D cy X0 293 (Rcr cy ad μ n)) noX 0 [.ref 5001, .int (iI 0), .int (iI (n : Nat))] [] μ := by
  refine gl_iload_n dJ7_copyOfRange_39247_0 rfl rfl ?_
  refine gl_if_ne (tgt := 10) dJ7_copyOfRange_39247_1 (by decide) rng0 (fun h => absurd rfl h) (fun _ => ?_)
  refine gl_iload_n dJ7_copyOfRange_39247_4 rfl rfl ?_
  refine gl_aload_n dJ7_copyOfRange_39247_5 rfl rfl ?_
  refine gl_balen (by decide) dJ7_copyOfRange_39247_6 hm ?_
  refine gl_rng (fun hR => ?_)
  refine gl_icmp_eq (tgt := 17) dJ7_copyOfRange_39247_7 (by decide) ⟨by omega, by omega⟩ (hR 5002 0) (fun h => ?_) (fun _ => ?_)
  · refine gl_aload_n dJ7_copyOfRange_39247_17 rfl rfl ?_
    refine gl_less (kc' := 0 + 1) (ks' := 0 + (μ 5002 0).toNat) (Nat.le_refl _) (by omega) ?_
    refine gl_clone (q := 406) (kc := 0) (ks := 0) fq406 (by decide) dJ7_copyOfRange_39247_18 ml_J7_310 hm (by decide) (by decide) (nok_ref (by decide) (nok_int (nok_int nok_nil))) nok_nil (fun a1 => ?_)
    refine gl_castB dJ7_copyOfRange_39247_21 cl_J7_311 ad1_s rfl ?_
    refine gl_areturnR dJ7_copyOfRange_39247_24 rfl (Or.inr ⟨_, rfl⟩) ⟨a1, _, rfl, rfl, rfl, by rw [show (μ 5002 0).toNat = n by omega], fun j hj => rfl⟩
  · refine gl_aload_n dJ7_copyOfRange_39247_10 rfl rfl ?_
    refine gl_iload_n dJ7_copyOfRange_39247_11 rfl rfl ?_
    refine gl_iload_n dJ7_copyOfRange_39247_12 rfl rfl ?_
    refine gl_null 0 ?_
    refine gl_callGS (ad2 := ad) (d' := 1) (kc' := 1) (ks' := n) (kc2 := 0) (ks2 := 0) (n := 3) (y' := mJ7_copyOfRangeByte_39247) (as := [.ref 5001, .int (iI 0), .int (iI (n : Nat))]) (as' := [.ref 5001, .int (iI 0), .int (iI (n : Nat))]) (rest := []) (G9 := []) (Fr := []) (R9 := Rcr cy ad μ n) dJ7_copyOfRange_39247_13 rfl rfl ml_J7_339 (mS0 ok_J7_copyOfRangeByte_39247) (by decide) (fun _ _ => rfl) (Or.inl rfl) rfl rfl (by decide) (by intro v hv; simp only [List.mem_cons, List.not_mem_nil, or_false] at hv; rcases hv with rfl | rfl | rfl <;> rfl) (by decide) (by decide) (by decide) (by omega) (fun X1 => cr_by hm hn h382) (fun r ad' μ' G' h => ?_)
    obtain ⟨a1, f, rfl, rfl, rfl, rfl, hf⟩ := h
    refine ⟨⟨ad1_n (by decide), Or.inl (fun L xs e => by cases e), fun k hk => ad1_n (by omega)⟩, rfl, rfl, ?_⟩
    exact gl_areturnR dJ7_copyOfRange_39247_16 rfl (Or.inr ⟨_, rfl⟩) ⟨a1, f, rfl, rfl, rfl, rfl, hf⟩
theorem st_init5 (ha : ad 405 = a) (hn : μ 5000 0 = (n : Int)) (hn2 : (n : Int) ≤ μ 5002 0) (h382 : n ≤ 382) : gl D cy X0 293 ad [stN a] 3 1 n mJ0_init_db425 (cR D cy X0 293 (Rst cy ad a μ n)) noX 0 [.ref 405, .ref 5000, .null, .null, .null] [] μ := by
  refine gl_aload_n dJ0_init_db425_0 rfl rfl ?_
  refine gl_obj dJ0_init_db425_1 ml_J0_1 (by decide) (by decide) ?_
  refine gl_sbin (by decide) (nob_ref (by decide) (nob_ref (by decide) (nob_null (nob_null (nob_null nob_nil))))) nob_nil (fun sa => ?_)
  obtain ⟨μ1, e1⟩ : ∃ μ1, μ1 = wr μ 5003 0 1 := ⟨_, rfl⟩
  rw [← e1]
  have hm : μ1 5003 0 ≠ 0 := by rw [e1, wr_s]; decide
  have m0 : μ1 5000 0 = (n : Int) := by rw [e1, wr_na (by decide)]; exact hn
  have m2 : (n : Int) ≤ μ1 5002 0 := by rw [e1, wr_na (by decide)]; exact hn2
  have m1 : ∀ j, μ1 5001 j = μ 5001 j := fun j => by rw [e1, wr_na (by decide)]
  refine gl_aload_n dJ0_init_db425_4 rfl rfl ?_
  refine gl_callO (z' := 276) (d' := 0) (kc' := 0) (ks' := 0) (kc2 := 1) (ks2 := n) (y' := mJ5_getValue_6d5f1) (as := []) (rest := []) dJ0_init_db425_5 rfl ml_J0_552 ok_J5_getValue_6d5f1 se_J5_getValue_6d5f1 (by decide) rfl (by decide) (by intro v hv; cases hv) (by decide) (by decide) (by decide) (by omega) (by omega) (sb_val hm ?_)
  refine gl_astore_n dJ0_init_db425_8 rfl (show (3 : Nat) < 5 by decide) ?_
  refine gl_aload_n dJ0_init_db425_9 rfl rfl ?_
  refine gl_callU (x := yJ5_length_8abf5) (y' := mJ4_length_8abf5) (as := []) (rest := []) (z' := 276) (d' := 1) (kc' := 0) (ks' := 0) (kc2 := 1) (ks2 := n) dJ0_init_db425_10 rfl ml_J0_549 ⟨⟨tb_in 1619 (by decide +kernel) (by decide +kernel), tb_in 13 (by decide +kernel) (by decide +kernel), by decide +kernel, ⟨by decide +kernel, by decide +kernel, by decide +kernel⟩, by decide, rfl⟩, tb_in 1618 (by decide +kernel) (by decide +kernel)⟩ rfl sm_J5_length_8abf5 ok_J5_length_8abf5.2 ok_J5_length_8abf5.1.1 (by decide +kernel) sl_len rfl (by decide) rfl (by decide) (by intro v hv; cases hv) (by decide) (by decide) (by decide) (by omega) (by omega) (sb_len ?_)
  refine gl_top (b := (n : Int)) m0 (fun _ => ?_)
  refine gl_istore dJ0_init_db425_13 (show (4 : Nat) < 5 by decide) ?_
  refine gl_aload_n dJ0_init_db425_15 rfl rfl ?_
  refine gl_callO (z' := 276) (d' := 0) (kc' := 0) (ks' := 0) (kc2 := 1) (ks2 := n) (y' := mJ5_isLatin1_aae02) (as := []) (rest := []) dJ0_init_db425_16 rfl ml_J0_1047 ok_J5_isLatin1_aae02 se_J5_isLatin1_aae02 (by decide) rfl (by decide) (by intro v hv; cases hv) (by decide) (by decide) (by decide) (by omega) (by omega) (sb_isLatin1 ?_)
  refine gl_if_eq (tgt := 41) dJ0_init_db425_19 (by decide) (by decide) (fun h => absurd h (by decide)) (fun _ => ?_)
  refine gl_aload_n dJ0_init_db425_22 rfl rfl ?_
  refine gl_iconst dJ0_init_db425_23 ?_
  refine gl_putF 0 (v' := .int (iI 0)) dJ0_init_db425_24 fF_J0_15 rfl ((ad5_n (by decide)).trans ha) rfl rfl (by decide) (by decide) (show (1 : Nat) < 4 by decide) ?_
  refine gl_aload_n dJ0_init_db425_27 rfl rfl ?_
  refine gl_aload_n dJ0_init_db425_28 rfl rfl ?_
  refine gl_iconst dJ0_init_db425_29 ?_
  refine gl_iload (v := (n : Int)) dJ0_init_db425_30 rfl ?_
  refine gl_null 0 (gl_null 1 (gl_null 3 ?_))
  refine gl_callGS (ad2 := ad5 ad sa) (d' := 2) (kc' := 1) (ks' := n) (kc2 := 0) (ks2 := 0) (n := 3) (y' := mJ7_copyOfRange_39247) (as := [.ref 5001, .int (iI 0), .int (iI (n : Nat))]) (as' := [.ref 5001, .int (iI 0), .int (iI (n : Nat))]) (rest := [.ref 405]) (G9 := []) (Fr := [(a, .inr (0, [.null, .int (iI 0), .int (iI 0), .int (iI 0)]))]) (R9 := Rcr cy (ad5 ad sa) μ1 n) dJ0_init_db425_32 rfl rfl ml_J0_54 (mS0 ok_J7_copyOfRange_39247) (by decide) (fun _ _ => rfl) (Or.inl rfl) rfl rfl (by decide) (by intro v hv; simp only [List.mem_cons, List.not_mem_nil, or_false] at hv; rcases hv with rfl | rfl | rfl <;> rfl) (by decide) (by decide) (by decide) (by omega) (fun X1 => cr_of hm m2 h382) (fun r ad' μ' G' h => ?_)
  obtain ⟨a1, f, rfl, rfl, rfl, rfl, hf⟩ := h
  refine ⟨⟨ad1_n (by decide), Or.inl (fun L xs e => by cases e), fun k hk => ad1_n (by omega)⟩, rfl, okr_map (P := fun k => k = 405) (okr_ref rfl okr_nil) (fun k hk => ad1_n (by omega)), ?_⟩
  refine gl_putF 1 (v' := .ref a1) dJ0_init_db425_35 fF_J0_9 rfl ((ad1_n (by decide)).trans ((ad5_n (by decide)).trans ha)) (congrArg Value.ref ad1_s) rfl rfl rfl (show (0 : Nat) < 4 by decide) ?_
  refine gl_goto (tgt := 97) dJ0_init_db425_38 (by decide) ?_
  refine gl_sbout (by decide) ?_
  refine gl_returnR dJ0_init_db425_97 rfl ⟨a1, f, rfl, fun k hk => (ad1_n (by omega)).trans (ad5_n (by omega)), ad1_s, fun b j hb => ?_, wr_s _ _ _ _, rfl, fun j hj => by rw [hf j hj, m1]⟩
  rw [wr_n (by omega), e1, wr_n (by omega)]
theorem st_init4 (ha : ad 405 = a) (hn : μ 5000 0 = (n : Int)) (hn2 : (n : Int) ≤ μ 5002 0) (h382 : n ≤ 382) : gl D cy X0 293 ad [stN a] 4 1 n mJ0_init_81219 (cR D cy X0 293 (Rst cy ad a μ n)) noX 0 [.ref 405, .ref 5000] [] μ := by
  refine gl_aload_n dJ0_init_81219_0 rfl rfl ?_
  refine gl_aload_n dJ0_init_81219_1 rfl rfl ?_
  refine gl_acnull dJ0_init_81219_2 ?_
  refine gl_null 0 (gl_null 1 ?_)
  refine gl_callGI (ad2 := ad) (d' := 3) (kc' := 1) (ks' := n) (kc2 := 0) (ks2 := 0) (b := 405) (b' := 405) (n := 2) (y' := mJ0_init_db425) (as := [.ref 5000, .null]) (as' := [.ref 5000, .null]) (rest := []) (G9 := [stN a]) (Fr := []) (R9 := Rst cy ad a μ n) dJ0_init_81219_3 rfl rfl ml_J0_489 (mI0 ok_J0_init_db425) rfl rfl (by decide) (fun _ _ => rfl) (Or.inl rfl) rfl rfl rfl (by decide) (by intro v hv; simp only [List.mem_cons, List.not_mem_nil, or_false] at hv; rcases hv with rfl | rfl <;> rfl) (by decide) (by decide) (by omega) (by omega) (fun X1 => st_init5 ha hn hn2 h382) (fun r ad' μ' G' h => ?_)
  obtain ⟨a1, f, rfl, h2, h3, h4, h5, rfl, hf⟩ := h
  refine ⟨⟨h2 _ (by decide), Or.inl (fun L xs e => by cases e), fun k hk => h2 k (by omega)⟩, rfl, rfl, ?_⟩
  exact gl_returnR dJ0_init_81219_6 rfl ⟨a1, f, rfl, h2, h3, h4, h5, rfl, hf⟩
/-- the answer of toString -/
def Rts (cy : Nat → ClassId) (ad : Nat → Nat) (μ : Mem) (n : Nat) : Option Value → (Nat → Nat) → Mem → va_W → Prop := fun r ad' μ' G' => ∃ (a a1 : Nat) (f : Nat → Int32), r = some (.ref 405) ∧ (∀ k, k < 293 ∨ k = 5000 ∨ k = 5005 ∨ 6000 ≤ k → ad' k = ad k) ∧ ad' 405 = a ∧ (∀ b j, (b ≠ 5003 ∨ j ≠ 0) → μ' b j = μ b j) ∧ μ' 5003 0 = 0 ∧ G' = [(a1, .inl (cy 2, n, .inl f)), (a, .inr (0, [.ref a1, .int (iI 0), .int (iI 0), .int (iI 0)]))] ∧ ∀ j, j < n → f j = iI (μ 5001 j)
theorem sb_toString (hn : μ 5000 0 = (n : Int)) (hn2 : (n : Int) ≤ μ 5002 0) (h382 : n ≤ 382) : gl D cy X0 293 ad [] 5 2 (n + 4) mJ4_toString_0e30d (cR D cy X0 293 (Rts cy ad μ n)) noX 0 [.ref 5000] [] μ := by
  refine gl_newC (q := 405) (N := 4) (ci := 0) (kc := 1) (ks := n) (fs := [.null, .int (iI 0), .int (iI 0), .int (iI 0)]) fq405 dJ4_toString_0e30d_0 cl_J4_18 in_J0 (tb_in 14 (by decide +kernel) (by decide +kernel)) iaJ0 tyJ0 tyJ0_ok rfl (by decide) (by decide) (nok_ref (by decide) nok_nil) nok_nil (fun a => ?_)
  refine gl_dup dJ4_toString_0e30d_3 rfl ?_
  refine gl_aload_n dJ4_toString_0e30d_4 rfl rfl ?_
  refine gl_null 0 ?_
  refine gl_callGI (ad2 := ad1 ad 405 a) (d' := 4) (kc' := 1) (ks' := n) (kc2 := 0) (ks2 := 0) (b := 405) (b' := 405) (n := 1) (y' := mJ0_init_81219) (as := [.ref 5000]) (as' := [.ref 5000]) (rest := [.ref 405]) (G9 := [stN a]) (Fr := []) (R9 := Rst cy (ad1 ad 405 a) a μ n) dJ4_toString_0e30d_5 rfl rfl ml_J4_137 (mI0 ok_J0_init_81219) rfl rfl (by decide) (fun _ _ => rfl) (Or.inl rfl) rfl rfl rfl (by decide) (by intro v hv; rw [List.mem_singleton.mp hv]; rfl) (by decide) (by decide) (by omega) (by omega) (fun X1 => st_init4 ad1_s hn hn2 h382) (fun r ad' μ' G' h => ?_)
  obtain ⟨a1, f, rfl, h2, h3, h4, h5, rfl, hf⟩ := h
  refine ⟨⟨h2 _ (by decide), Or.inl (fun L xs e => by cases e), fun k hk => h2 k (by omega)⟩, rfl, okr_map (P := fun k => k = 405) (okr_ref rfl okr_nil) (fun k hk => h2 k (by omega)), ?_⟩
  exact gl_areturnR dJ4_toString_0e30d_8 rfl (Or.inl ⟨_, rfl⟩) ⟨a, a1, f, rfl, fun k hk => (h2 k (by omega)).trans (ad1_n (by omega)), (h2 405 (by decide)).trans ad1_s, h4, h5, rfl, hf⟩
end ToStr2
