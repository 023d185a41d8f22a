/-! THE OUTPUT HAS ROOM: isLatin1, newLength, newCapacity, ensureCapacityInternal -/
theorem ic_J8_200 : Cond.constant RJ8 200 2147483639 ∈ aw := tb_in 1482 (by decide +kernel) (by decide +kernel)
theorem ic_J5_39 : Cond.constant RJ5 39 2147483647 ∈ aw := tb_in 1452 (by decide +kernel) (by decide +kernel)
theorem nob_nil : nob [] := fun v hv => by cases hv
theorem nob_int {x : Int32} {l : List Value} (h : nob l) : nob (.int x :: l) := fun v hv => (List.mem_cons.mp hv).elim (fun e => by rw [e]; intro w; cases w) (h v)
theorem nob_null {l : List Value} (h : nob l) : nob (.null :: l) := fun v hv => (List.mem_cons.mp hv).elim (fun e => by rw [e]; intro w; cases w) (h v)
theorem nob_ref {k : Nat} {l : List Value} (hk : k ≠ 5001) (h : nob l) : nob (.ref k :: l) := fun v hv => (List.mem_cons.mp hv).elim (fun e => by rw [e]; intro w; injection w with w; exact hk w) (h v)
theorem shr_0 (a : Int) : iI a >>> (iI 0 &&& 31) = iI a := sb_shr0 _
theorem shl_0 (a : Int) : iI a <<< (iI 0 &&& 31) = iI a := sb_shl0 _
section Ens
variable {z d kc ks : Nat} {y : MI} {Q : Option Value → Mem → Prop} {X : String → Mem → Prop} {pc : Nat} {ls st : List Value} {μ : Mem}
/-- the output with a longer row -/
def grw (μ : Mem) (q : Int) : Mem := fun b j => if b = 5001 then (if (j : Int) < μ 5002 0 then μ 5001 j else 0) else if b = 5002 ∧ j = 0 then q else if b = 5003 ∧ j = 0 then 0 else μ b j
theorem grw_o {q : Int} {b j : Nat} (h : b ≠ 5001 ∧ b ≠ 5002 ∧ b ≠ 5003) : grw μ q b j = μ b j := by
  unfold grw
  rw [if_neg h.1, if_neg (fun w => h.2.1 w.1), if_neg (fun w => h.2.2 w.1)]
theorem grw_1 {q : Int} {j : Nat} : grw μ q 5001 j = if (j : Int) < μ 5002 0 then μ 5001 j else 0 := rfl
theorem grw_2 {q : Int} : grw μ q 5002 0 = q := rfl
theorem grw_3 {q : Int} : grw μ q 5003 0 = 0 := rfl
theorem go_grow {q : Int} (hz : 276 ≤ z) (hm : μ 5003 0 ≠ 0) (hq : q = 46 ∨ q = 94 ∨ q = 190 ∨ q = 382) (hcq : μ 5002 0 < q) (hdd : 2 ≤ d) (hk : 1 ≤ kc) (hks : q.toNat ≤ ks) (K : Q none (grw μ q)) : go z d kc ks mJ5_ensureCapacityInternal_d00df Q X 32 ls [.int (iI q), .ref 5001, .ref 5000] μ := by
  intro p l e R s m args below meth c D cy X0 mc ms nn ad hc H locs cells slots lsA dv hw hS hl h1 h2
  obtain ⟨c1, c2, c3, c4, c5, c6, c7, c8, c9, c10, c11, c12, c13, c14, c15, c16, c17, c18, c19⟩ := id hc
  obtain ⟨⟨k1, k2, k3, k4, k5, k6, k9⟩, k7⟩ := ok_J7_copyOf_9075b
  obtain ⟨hR, -, -, -, -, -, a2, a3, a4⟩ := wd_sb hw (by omega)
  have hM := cp_met (l := l) (D := D) (cy := cy) (X0 := X0) (n := nn) (ad := ad) (dv := dv) c18 (by omega) c10 hq hcq hm
  have hcw : CallB R s args RJ5 108 yJ7_copyOf_9075b cJ7_copyOf_9075b 3 (some (.array .byte)) (wsa mJ7_copyOf_9075b) (rmd 1 1 q.toNat) 1 q.toNat 2 ∧ (Cond.static yJ7_copyOf_9075b).before args s = true :=
    ⟨callB_of 2 c6 (good_wsa k1) rfl rfl rfl (c6 _ k2) (c6 _ ml_J5_108) k4 ⟨by show 1 + 1 ≤ _; omega, by show 8 + (3 + 11) + 40 * 1 ≤ _; omega⟩, c6 _ k7⟩
  have hp : PreS s H (gP D cy X0 nn ad dv μ [.ref 5001, .int (iI q)]) [.ref (ad 5001), .int (iI q)] :=
    ⟨gP_blind, fun U hU hWU => ⟨rfl, by rw [hU]; exact hw, by rw [hU]; exact kx_moved hWU hS c8, by rw [hU]; exact AX_le c15 hS.1⟩⟩
  have hr := vx_runS (p := p) (e := e) (m := m) (below := below) (meth := meth) (c := c) (locs := locs) (cells := cells) (slots := slots) (g := F0 m 32 lsA [.int (iI q), .ref (ad 5001), .ref (ad 5000)]) (rest := [.ref (ad 5000)]) (As := [.ref (ad 5001), .int (iI q)]) (nL := mJ5_ensureCapacityInternal_d00df.2.2.1) ⟨c1, c2, c4, c5, c6⟩ hM hcw hp rfl rfl hl.1 rfl (Nat.le_of_ble_eq_true rfl) dJ5_ensureCapacityInternal_d00df_32 ⟨by omega, by omega⟩
  intro T hT X9
  rcases hr T hT X9 with hr | hr
  · obtain ⟨v, st₀, t, T', L, h0, X', hL, e1, e2, ⟨⟨sb, dv', ml, hv, hP, hD⟩, hF⟩, st9⟩ := hr
    have hv' : v = some (.ref sb) := by injection hv
    subst hv'
    have hS' : va_S X0 s.heap T'.heap (locs ++ L) := by
      obtain ⟨hz, hk⟩ := hF
      rw [h0] at hz hk
      exact ⟨Nat.le_trans hS.1 (by rw [e1]; exact hz), fun q h1 h2 => by rw [e1, hk q (Nat.lt_of_lt_of_le h1 hS.1) h2]; exact hS.2.1 q h1 h2, fun q hq => by
        rcases List.mem_append.mp hq with h | h
        · exact hS.2.2 q h
        · exact hL q h⟩
    rw [← e1] at hP
    have k : W p l e R s m args below meth c T'.heap (locs ++ L) (cells + 1) (slots + q.toNat) (vx_MQ below (gQ D cy X0 nn ad Q) (gX D cy X0 nn ad X) args s mc ms X0) (F0 m 35 lsA [.ref sb, .ref (ad 5000)]) := by
      refine va_put (Ts := aw) (v := .ref sb) (ty := .array .byte) (T := TJ4) (N := 4) c1 c2 c6 iaJ4 tyJ4 tyJ4_ok nmJ4 c5 c8.1 hP hD hS' (nn + 0) (wsl_nk 0) rfl 0 (by decide) (c6 _ fk_J5_15) (fun x h => h) rfl rfl rfl rfl (show (0 : Nat) < 4 by decide) dJ5_ensureCapacityInternal_d00df_35 (fun H1 locs1 hP1 hD1 hS1 => ?_)
      rw [wsl_nset 0] at hP1 hD1
      have hP2 := P_drop hP1
      have hD2 := D_drop hD1
      have ew : wsl cy dv' ad (grw μ q) nn = wsl cy dv' ad μ nn := wsl_off (fun a j ha => grw_o (by omega))
      have e50' : (ad 5000, .inr (1, [Value.ref (ad 5001), .int 0, .int ml, .int (iI (μ 5000 0))].set 0 (.ref sb))) = e50 ad sb ml (grw μ q) := by
        unfold e50
        rw [grw_o (by decide)]
        rfl
      have e51' : ((sb, .inl (cy 2, q.toNat, .inl (va_cpy (fun j => iI (μ 5001 j)) (fun _ => 0) 0 0 (μ 5002 0).toNat))) : Nat × va_E) = e51 cy sb (grw μ q) := by
        unfold e51
        rw [grw_2]
        refine congrArg (fun g => (((sb, .inl (cy 2, q.toNat, .inl g)) : Nat × va_E))) ?_
        funext j
        rw [grw_1]
        unfold va_cpy
        by_cases g : (j : Int) < μ 5002 0
        · rw [if_pos g, if_pos (by omega)]
          show iI (μ 5001 (0 + (j - 0))) = _
          rw [show 0 + (j - 0) = j by omega]
        · rw [if_neg g, if_neg (by omega)]
          rfl
      have hR' : ∀ a i, rng (grw μ q a i) := by
        intro a i
        unfold grw
        by_cases b1 : a = 5001
        · rw [if_pos b1]
          split
          · exact hR _ _
          · exact rng0
        rw [if_neg b1]
        split
        · unfold rng; omega
        split
        · exact rng0
        · exact hR _ _
      have hw' : wd D cy nn ad dv' (grw μ q) X0 H1 := by
        refine wd_bs (sa := sb) (ml := ml) hR' (by omega) ?_ ?_ (fun w => absurd grw_3 w) ?_ ?_ (fun j => ?_)
        · rw [ew, ← e50', ← e51']
          exact hP2
        · rw [ew, ← e50', ← e51']
          exact hD2
        · rw [grw_o (by decide), grw_2]
          omega
        · rw [grw_2]
          omega
        · rw [grw_1]
          split
          · exact a4 j
          · decide
      exact go_use (st := []) (go_return (y := mJ5_ensureCapacityInternal_d00df) (pc := 38) (kc := kc - 1) (ks := ks - q.toNat) (z := z) (d := d) dJ5_ensureCapacityInternal_d00df_38 rfl K) hc hw' hS1 hl (by omega) (by omega)
    obtain ⟨t2, a1', b1'⟩ := k T' rfl X'
    exact ⟨t2, st9 t2 a1', b1'⟩
  · obtain ⟨q9, st₀, t, T', L, E, ce, h0, X', hL, e1, e2, hx, hce, hvm, hcl, st9⟩ := hr
    exact hx.elim
end Ens
set_option maxRecDepth 8000 in
set_option maxHeartbeats 4000000 in
theorem sb_isLatin1 {μ : Mem} {Q : Option Value → Mem → Prop} {X : String → Mem → Prop} (K : Q (some (.int (iI 1))) μ) : mt 276 0 0 0 mJ5_isLatin1_aae02 [.ref 5000] Q X μ := by
  show go 276 0 0 0 mJ5_isLatin1_aae02 Q X 0 [.ref 5000] [] _
  refine go_compact (y := mJ5_isLatin1_aae02) (pc := 0) dJ5_isLatin1_aae02_0 fk_J5_18 ?_
  refine go_if_eq (y := mJ5_isLatin1_aae02) (pc := 3) (tgt := 17) dJ5_isLatin1_aae02_3 (by decide) (by omega) (fun h3 => ?_) (fun h3 => ?_)
  · skip
    exact absurd h3 (by decide)
  · skip
    refine go_aload_n (y := mJ5_isLatin1_aae02) (pc := 6) dJ5_isLatin1_aae02_6 rfl rfl ?_
    refine go_bcod (y := mJ5_isLatin1_aae02) (pc := 7) dJ5_isLatin1_aae02_7 fk_J5_22 (by decide) ?_
    refine go_if_ne (y := mJ5_isLatin1_aae02) (pc := 10) (tgt := 17) dJ5_isLatin1_aae02_10 (by decide) (by omega) (fun h10 => ?_) (fun h10 => ?_)
    · skip
      exact absurd rfl h10
    · skip
      refine go_iconst (y := mJ5_isLatin1_aae02) (pc := 13) dJ5_isLatin1_aae02_13 ?_
      refine go_goto (y := mJ5_isLatin1_aae02) (pc := 14) (tgt := 18) dJ5_isLatin1_aae02_14 (by decide) ?_
      refine go_zreturn (y := mJ5_isLatin1_aae02) (pc := 18) dJ5_isLatin1_aae02_18 rfl (by omega) ?_
      exact K
set_option maxRecDepth 8000 in
set_option maxHeartbeats 4000000 in
theorem sb_newLength {μ : Mem} {a b c : Int} (ha : 0 < a ∧ a ≤ 1000) (hb : -1000 ≤ b ∧ b ≤ 1000) (hc : 0 ≤ c ∧ c ≤ 1000) {Q : Option Value → Mem → Prop} {X : String → Mem → Prop} (K : Q (some (.int (iI (a + max b c)))) μ) : mt 276 1 0 0 mJ8_newLength_cabcc [.int (iI a), .int (iI b), .int (iI c)] Q X μ := by
  show go 276 1 0 0 mJ8_newLength_cabcc Q X 0 [.int (iI a), .int (iI b), .int (iI c), .null] [] _
  refine go_iload_n (y := mJ8_newLength_cabcc) (pc := 0) dJ8_newLength_cabcc_0 rfl rfl ?_
  refine go_iload_n (y := mJ8_newLength_cabcc) (pc := 1) dJ8_newLength_cabcc_1 rfl rfl ?_
  refine go_iload_n (y := mJ8_newLength_cabcc) (pc := 2) dJ8_newLength_cabcc_2 rfl rfl ?_
  refine go_mmax (y := mJ8_newLength_cabcc) (pc := 3) dJ8_newLength_cabcc_3 ml_J8_194 (by decide) (Nat.le_of_ble_eq_true rfl) (by omega) (by omega) ?_
  refine go_iadd (y := mJ8_newLength_cabcc) (pc := 6) dJ8_newLength_cabcc_6 ?_
  refine go_istore_n (y := mJ8_newLength_cabcc) (pc := 7) dJ8_newLength_cabcc_7 rfl (by decide) ?_
  refine go_iconst (y := mJ8_newLength_cabcc) (pc := 8) dJ8_newLength_cabcc_8 ?_
  refine go_iload_n (y := mJ8_newLength_cabcc) (pc := 9) dJ8_newLength_cabcc_9 rfl rfl ?_
  refine go_icmp_ge (y := mJ8_newLength_cabcc) (pc := 10) (tgt := 21) dJ8_newLength_cabcc_10 (by decide) (by omega) (by omega) (fun h10 => ?_) (fun h10 => ?_)
  · skip
    exact absurd h10 (by omega)
  · skip
    refine go_iload_n (y := mJ8_newLength_cabcc) (pc := 13) dJ8_newLength_cabcc_13 rfl rfl ?_
    refine go_ldcI (y := mJ8_newLength_cabcc) (pc := 14) (w := 2147483639) dJ8_newLength_cabcc_14 ic_J8_200 (by decide) ?_
    refine go_icmp_gt (y := mJ8_newLength_cabcc) (pc := 16) (tgt := 21) dJ8_newLength_cabcc_16 (by decide) (by omega) (by omega) (fun h16 => ?_) (fun h16 => ?_)
    · skip
      exact absurd h16 (by omega)
    · skip
      refine go_iload_n (y := mJ8_newLength_cabcc) (pc := 19) dJ8_newLength_cabcc_19 rfl rfl ?_
      refine go_ireturn (y := mJ8_newLength_cabcc) (pc := 20) dJ8_newLength_cabcc_20 rfl ?_
      exact K
set_option maxRecDepth 8000 in
set_option maxHeartbeats 4000000 in
theorem sb_newCapacity {μ : Mem} {q : Int} (hm : μ 5003 0 ≠ 0) (hq : μ 5002 0 < q ∧ q ≤ 2 * μ 5002 0 + 2) {Q : Option Value → Mem → Prop} {X : String → Mem → Prop} (K : Q (some (.int (iI (2 * μ 5002 0 + 2)))) μ) : mt 276 2 0 0 mJ5_newCapacity_0f7a4 [.ref 5000, .int (iI q)] Q X μ := by
  show go 276 2 0 0 mJ5_newCapacity_0f7a4 Q X 0 [.ref 5000, .int (iI q), .null, .null, .null, .null] [] _
  refine go_aload_n (y := mJ5_newCapacity_0f7a4) (pc := 0) dJ5_newCapacity_0f7a4_0 rfl rfl ?_
  refine go_bref (y := mJ5_newCapacity_0f7a4) (pc := 1) dJ5_newCapacity_0f7a4_1 fk_J5_15 (by decide) hm ?_
  refine go_blen (y := mJ5_newCapacity_0f7a4) (pc := 4) dJ5_newCapacity_0f7a4_4 (by decide) hm (fun a4 => ?_)
  refine go_istore_n (y := mJ5_newCapacity_0f7a4) (pc := 5) dJ5_newCapacity_0f7a4_5 rfl (by decide) ?_
  refine go_iload_n (y := mJ5_newCapacity_0f7a4) (pc := 6) dJ5_newCapacity_0f7a4_6 rfl rfl ?_
  refine go_aload_n (y := mJ5_newCapacity_0f7a4) (pc := 7) dJ5_newCapacity_0f7a4_7 rfl rfl ?_
  refine go_bcod (y := mJ5_newCapacity_0f7a4) (pc := 8) dJ5_newCapacity_0f7a4_8 fk_J5_22 (by decide) ?_
  refine go_ishl (y := mJ5_newCapacity_0f7a4) (pc := 11) dJ5_newCapacity_0f7a4_11 (v := q) (shl_0 q) ?_
  refine go_istore_n (y := mJ5_newCapacity_0f7a4) (pc := 12) dJ5_newCapacity_0f7a4_12 rfl (by decide) ?_
  refine go_iload_n (y := mJ5_newCapacity_0f7a4) (pc := 13) dJ5_newCapacity_0f7a4_13 rfl rfl ?_
  refine go_iload_n (y := mJ5_newCapacity_0f7a4) (pc := 14) dJ5_newCapacity_0f7a4_14 rfl rfl ?_
  refine go_isub (y := mJ5_newCapacity_0f7a4) (pc := 15) dJ5_newCapacity_0f7a4_15 ?_
  refine go_istore (y := mJ5_newCapacity_0f7a4) (pc := 16) dJ5_newCapacity_0f7a4_16 (by decide) ?_
  refine go_iload_n (y := mJ5_newCapacity_0f7a4) (pc := 18) dJ5_newCapacity_0f7a4_18 rfl rfl ?_
  refine go_iload (y := mJ5_newCapacity_0f7a4) (pc := 19) dJ5_newCapacity_0f7a4_19 rfl ?_
  refine go_iload_n (y := mJ5_newCapacity_0f7a4) (pc := 21) dJ5_newCapacity_0f7a4_21 rfl rfl ?_
  refine go_iconst (y := mJ5_newCapacity_0f7a4) (pc := 22) dJ5_newCapacity_0f7a4_22 ?_
  refine go_aload_n (y := mJ5_newCapacity_0f7a4) (pc := 23) dJ5_newCapacity_0f7a4_23 rfl rfl ?_
  refine go_bcod (y := mJ5_newCapacity_0f7a4) (pc := 24) dJ5_newCapacity_0f7a4_24 fk_J5_22 (by decide) ?_
  refine go_ishl (y := mJ5_newCapacity_0f7a4) (pc := 27) dJ5_newCapacity_0f7a4_27 (v := 2) (shl_0 2) ?_
  refine go_iadd (y := mJ5_newCapacity_0f7a4) (pc := 28) dJ5_newCapacity_0f7a4_28 ?_
  refine go_callS3 (y := mJ5_newCapacity_0f7a4) (pc := 29) (y' := mJ8_newLength_cabcc) (kc2 := 0) (ks2 := 0) dJ5_newCapacity_0f7a4_29 ml_J5_114 ok_J8_newLength_cabcc ⟨rfl, rfl, rfl⟩ (by decide) (Nat.le_of_ble_eq_true rfl) rfl (sb_newLength (by omega) (by omega) (by omega) ?_)
  refine go_top (b := 2 * μ 5002 0 + 2) ((by omega)) (fun t29 => ?_)
  refine go_istore (y := mJ5_newCapacity_0f7a4) (pc := 32) dJ5_newCapacity_0f7a4_32 (by decide) ?_
  refine go_iload (y := mJ5_newCapacity_0f7a4) (pc := 34) dJ5_newCapacity_0f7a4_34 rfl ?_
  refine go_ldcI (y := mJ5_newCapacity_0f7a4) (pc := 36) (w := 2147483647) dJ5_newCapacity_0f7a4_36 ic_J5_39 (by decide) ?_
  refine go_icmp_ne (y := mJ5_newCapacity_0f7a4) (pc := 38) (tgt := 51) dJ5_newCapacity_0f7a4_38 (by decide) (by omega) (by omega) (fun h38 => ?_) (fun h38 => ?_)
  · skip
    refine go_iload (y := mJ5_newCapacity_0f7a4) (pc := 51) dJ5_newCapacity_0f7a4_51 rfl ?_
    refine go_aload_n (y := mJ5_newCapacity_0f7a4) (pc := 53) dJ5_newCapacity_0f7a4_53 rfl rfl ?_
    refine go_bcod (y := mJ5_newCapacity_0f7a4) (pc := 54) dJ5_newCapacity_0f7a4_54 fk_J5_22 (by decide) ?_
    refine go_ishr (y := mJ5_newCapacity_0f7a4) (pc := 57) dJ5_newCapacity_0f7a4_57 (v := 2 * μ 5002 0 + 2) (shr_0 _) ?_
    refine go_ireturn (y := mJ5_newCapacity_0f7a4) (pc := 58) dJ5_newCapacity_0f7a4_58 rfl ?_
    exact K
  · skip
    exact absurd h38 (by omega)
set_option maxRecDepth 8000 in
set_option maxHeartbeats 4000000 in
theorem sb_ens0 {μ : Mem} {q : Int} (h0 : μ 5003 0 = 0) (hq : 0 ≤ q ∧ q ≤ μ 5002 0) {Q : Option Value → Mem → Prop} {X : String → Mem → Prop} (K : Q none μ) : mt 276 3 0 0 mJ5_ensureCapacityInternal_d00df [.ref 5000, .int (iI q)] Q X μ := by
  show go 276 3 0 0 mJ5_ensureCapacityInternal_d00df Q X 0 [.ref 5000, .int (iI q), .null] [] _
  refine go_sbin (by decide) (by repeat' first | exact nob_nil | refine nob_int ?_ | refine nob_null ?_ | refine nob_ref (by decide) ?_) (by repeat' first | exact nob_nil | refine nob_int ?_ | refine nob_null ?_ | refine nob_ref (by decide) ?_) ?_
  obtain ⟨N, eN⟩ : ∃ N, N = wr μ 5003 0 1 := ⟨_, rfl⟩
  have hm : N 5003 0 ≠ 0 := by rw [eN, wr_s]; decide
  have N2 : N 5002 0 = μ 5002 0 := by rw [eN, wr_na (by decide)]
  refine go_mem eN.symm ?_
  refine go_aload_n (y := mJ5_ensureCapacityInternal_d00df) (pc := 0) dJ5_ensureCapacityInternal_d00df_0 rfl rfl ?_
  refine go_bref (y := mJ5_ensureCapacityInternal_d00df) (pc := 1) dJ5_ensureCapacityInternal_d00df_1 fk_J5_15 (by decide) hm ?_
  refine go_blen (y := mJ5_ensureCapacityInternal_d00df) (pc := 4) dJ5_ensureCapacityInternal_d00df_4 (by decide) hm (fun a4 => ?_)
  refine go_aload_n (y := mJ5_ensureCapacityInternal_d00df) (pc := 5) dJ5_ensureCapacityInternal_d00df_5 rfl rfl ?_
  refine go_bcod (y := mJ5_ensureCapacityInternal_d00df) (pc := 6) dJ5_ensureCapacityInternal_d00df_6 fk_J5_22 (by decide) ?_
  refine go_ishr (y := mJ5_ensureCapacityInternal_d00df) (pc := 9) dJ5_ensureCapacityInternal_d00df_9 (v := N 5002 0) (shr_0 _) ?_
  refine go_istore_n (y := mJ5_ensureCapacityInternal_d00df) (pc := 10) dJ5_ensureCapacityInternal_d00df_10 rfl (by decide) ?_
  refine go_iload_n (y := mJ5_ensureCapacityInternal_d00df) (pc := 11) dJ5_ensureCapacityInternal_d00df_11 rfl rfl ?_
  refine go_iload_n (y := mJ5_ensureCapacityInternal_d00df) (pc := 12) dJ5_ensureCapacityInternal_d00df_12 rfl rfl ?_
  refine go_isub (y := mJ5_ensureCapacityInternal_d00df) (pc := 13) dJ5_ensureCapacityInternal_d00df_13 ?_
  refine go_if_le (y := mJ5_ensureCapacityInternal_d00df) (pc := 14) (tgt := 38) dJ5_ensureCapacityInternal_d00df_14 (by decide) (by omega) (fun h14 => ?_) (fun h14 => ?_)
  · skip
    refine go_return (y := mJ5_ensureCapacityInternal_d00df) (pc := 38) dJ5_ensureCapacityInternal_d00df_38 rfl ?_
    refine ⟨fun w => (by cases w), ?_⟩
    rw [eN, show wr (wr μ 5003 0 1) 5003 0 0 = μ from (by
      funext b j
      by_cases e : b = 5003 ∧ j = 0
      · rw [e.1, e.2, wr_s, h0]
      · rw [wr_n e, wr_n e])]
    exact K
  · skip
    exact absurd h14 (by omega)
set_option maxRecDepth 8000 in
set_option maxHeartbeats 4000000 in
theorem sb_ens1 {μ : Mem} {q : Int} {ks : Nat} (hks : (2 * μ 5002 0 + 2).toNat ≤ ks) (h0 : μ 5003 0 = 0) (hq : μ 5002 0 < q ∧ q ≤ 2 * μ 5002 0 + 2) (h142 : μ 5002 0 = 22 ∨ μ 5002 0 = 46 ∨ μ 5002 0 = 94 ∨ μ 5002 0 = 190) {Q : Option Value → Mem → Prop} {X : String → Mem → Prop} (K : Q none (grw μ (2 * μ 5002 0 + 2))) : mt 276 3 1 ks mJ5_ensureCapacityInternal_d00df [.ref 5000, .int (iI q)] Q X μ := by
  show go 276 3 1 ks mJ5_ensureCapacityInternal_d00df Q X 0 [.ref 5000, .int (iI q), .null] [] _
  refine go_sbin (by decide) (by repeat' first | exact nob_nil | refine nob_int ?_ | refine nob_null ?_ | refine nob_ref (by decide) ?_) (by repeat' first | exact nob_nil | refine nob_int ?_ | refine nob_null ?_ | refine nob_ref (by decide) ?_) ?_
  obtain ⟨N, eN⟩ : ∃ N, N = wr μ 5003 0 1 := ⟨_, rfl⟩
  have hm : N 5003 0 ≠ 0 := by rw [eN, wr_s]; decide
  have N2 : N 5002 0 = μ 5002 0 := by rw [eN, wr_na (by decide)]
  refine go_mem eN.symm ?_
  refine go_aload_n (y := mJ5_ensureCapacityInternal_d00df) (pc := 0) dJ5_ensureCapacityInternal_d00df_0 rfl rfl ?_
  refine go_bref (y := mJ5_ensureCapacityInternal_d00df) (pc := 1) dJ5_ensureCapacityInternal_d00df_1 fk_J5_15 (by decide) hm ?_
  refine go_blen (y := mJ5_ensureCapacityInternal_d00df) (pc := 4) dJ5_ensureCapacityInternal_d00df_4 (by decide) hm (fun a4 => ?_)
  refine go_aload_n (y := mJ5_ensureCapacityInternal_d00df) (pc := 5) dJ5_ensureCapacityInternal_d00df_5 rfl rfl ?_
  refine go_bcod (y := mJ5_ensureCapacityInternal_d00df) (pc := 6) dJ5_ensureCapacityInternal_d00df_6 fk_J5_22 (by decide) ?_
  refine go_ishr (y := mJ5_ensureCapacityInternal_d00df) (pc := 9) dJ5_ensureCapacityInternal_d00df_9 (v := N 5002 0) (shr_0 _) ?_
  refine go_istore_n (y := mJ5_ensureCapacityInternal_d00df) (pc := 10) dJ5_ensureCapacityInternal_d00df_10 rfl (by decide) ?_
  refine go_iload_n (y := mJ5_ensureCapacityInternal_d00df) (pc := 11) dJ5_ensureCapacityInternal_d00df_11 rfl rfl ?_
  refine go_iload_n (y := mJ5_ensureCapacityInternal_d00df) (pc := 12) dJ5_ensureCapacityInternal_d00df_12 rfl rfl ?_
  refine go_isub (y := mJ5_ensureCapacityInternal_d00df) (pc := 13) dJ5_ensureCapacityInternal_d00df_13 ?_
  refine go_if_le (y := mJ5_ensureCapacityInternal_d00df) (pc := 14) (tgt := 38) dJ5_ensureCapacityInternal_d00df_14 (by decide) (by omega) (fun h14 => ?_) (fun h14 => ?_)
  · skip
    exact absurd h14 (by omega)
  · skip
    refine go_aload_n (y := mJ5_ensureCapacityInternal_d00df) (pc := 17) dJ5_ensureCapacityInternal_d00df_17 rfl rfl ?_
    refine go_aload_n (y := mJ5_ensureCapacityInternal_d00df) (pc := 18) dJ5_ensureCapacityInternal_d00df_18 rfl rfl ?_
    refine go_bref (y := mJ5_ensureCapacityInternal_d00df) (pc := 19) dJ5_ensureCapacityInternal_d00df_19 fk_J5_15 (by decide) hm ?_
    refine go_aload_n (y := mJ5_ensureCapacityInternal_d00df) (pc := 22) dJ5_ensureCapacityInternal_d00df_22 rfl rfl ?_
    refine go_iload_n (y := mJ5_ensureCapacityInternal_d00df) (pc := 23) dJ5_ensureCapacityInternal_d00df_23 rfl rfl ?_
    refine go_callO (y := mJ5_ensureCapacityInternal_d00df) (pc := 24) (y' := mJ5_newCapacity_0f7a4) (as := [.int (iI q)]) (kc2 := 1) (ks2 := ks) dJ5_ensureCapacityInternal_d00df_24 rfl ml_J5_104 ok_J5_newCapacity_0f7a4 se_J5_newCapacity_0f7a4 (by decide) rfl (Nat.le_of_ble_eq_true rfl) (by intro v hv; simp only [List.mem_cons, List.not_mem_nil, or_false] at hv; rw [hv]; rfl) (Nat.le_of_ble_eq_true rfl) (Nat.le_refl _) (by decide) (by decide) (Nat.le_of_eq (Nat.zero_add _)) rfl (sb_newCapacity hm (by omega) ?_)
    refine go_aload_n (y := mJ5_ensureCapacityInternal_d00df) (pc := 27) dJ5_ensureCapacityInternal_d00df_27 rfl rfl ?_
    refine go_bcod (y := mJ5_ensureCapacityInternal_d00df) (pc := 28) dJ5_ensureCapacityInternal_d00df_28 fk_J5_22 (by decide) ?_
    refine go_ishl (y := mJ5_ensureCapacityInternal_d00df) (pc := 31) dJ5_ensureCapacityInternal_d00df_31 (v := 2 * N 5002 0 + 2) (shl_0 _) ?_
    rw [N2]
    refine go_grow (by decide) hm (by omega) (by omega) (by decide) (by decide) hks ⟨fun w => (by cases w), ?_⟩
    rw [show wr (grw N (2 * μ 5002 0 + 2)) 5003 0 0 = grw μ (2 * μ 5002 0 + 2) from (by
      rw [wr_id grw_3, eN]
      funext b j
      unfold grw
      rw [wr_na (show (5002 : Nat) ≠ 5003 by decide), wr_na (show (5001 : Nat) ≠ 5003 by decide)]
      by_cases e : b = 5003 ∧ j = 0
      · rw [if_pos e, if_pos e]
      · rw [if_neg e, if_neg e, wr_n e])]
    exact K
