/-! TEXTS that a method is given: the String 6100, its bytes 6101 -/
/-- a method that is given a text -/
abbrev wt (y : MI) (L : Nat) (xs : Nat → Int32) : MI := (y.1, y.2.1, y.2.2.1, y.2.2.2.1, y.2.2.2.2.1, some (true, L, xs))
theorem okV_t {y : MI} {n : Nat} {L : Nat} {xs : Nat → Int32} (h : mokV y n) : mok0 (wt y L xs) n ∧ Cond.instanceMethod (wt y L xs).1 ∈ aw ∧ Cond.selects (wt y L xs).1.cls (wt y L xs).1 (wt y L xs).1 ∈ aw := ⟨⟨h.1.1, h.1.2.1, h.1.2.2.1, h.1.2.2.2.1, h.1.2.2.2.2.1, h.1.2.2.2.2.2.1⟩, h.2⟩
theorem okS_t {y : MI} {n : Nat} {L : Nat} {xs : Nat → Int32} (h : mokS y n) : mok0 (wt y L xs) n ∧ Cond.static (wt y L xs).1 ∈ aw := ⟨⟨h.1.1, h.1.2.1, h.1.2.2.1, h.1.2.2.2.1, h.1.2.2.2.2.1, h.1.2.2.2.2.2.1⟩, h.2⟩
/-- the letter at place k -/
abbrev chx (xs : Nat → Int32) (k : Nat) : Int := (xs k).toInt
section TT
variable {z d kc ks : Nat} {y : MI} {Q : Option Value → Mem → Prop} {X : String → Mem → Prop} {pc : Nat} {ls st : List Value} {μ : Mem} {L : Nat} {xs : Nat → Int32}
theorem go_tval (hd : decode y.2.1 pc = .ok (.getfield 9, 3)) (hy : y.1.cls = RJ0) (hi : y.2.2.2.2.2 = some (true, L, xs)) (K : go z d kc ks y Q X (pc + 3) ls (.ref 6101 :: st) μ) : go z d kc ks y Q X pc ls (.ref 6100 :: st) μ := by
  intro p l e R s m args below meth c D cy X0 mc ms nn ad hc H locs cells slots lsA dv hw hS hl h1 h2
  obtain ⟨c1, c2, c3, c4, c5, c6, c7, c8, c9, c10, c11, c12, c13, c14, c15, c16, c17, c18, c19⟩ := id hc
  obtain ⟨g0, g1, g2, g3, g4⟩ := (c19 L xs).2 hi
  rw [hy] at c5
  exact vk_getf c1 c2 g3 hS c5 (c6 _ fk_J0_9) (fun x h => h) hd (go_use K hc hw hS hl h1 h2)
theorem go_tcod (hd : decode y.2.1 pc = .ok (.getfield 15, 3)) (hy : y.1.cls = RJ0) (hi : y.2.2.2.2.2 = some (true, L, xs)) (K : go z d kc ks y Q X (pc + 3) ls (.int (iI 0) :: st) μ) : go z d kc ks y Q X pc ls (.ref 6100 :: st) μ := by
  intro p l e R s m args below meth c D cy X0 mc ms nn ad hc H locs cells slots lsA dv hw hS hl h1 h2
  obtain ⟨c1, c2, c3, c4, c5, c6, c7, c8, c9, c10, c11, c12, c13, c14, c15, c16, c17, c18, c19⟩ := id hc
  obtain ⟨g0, g1, g2, g3, g4⟩ := (c19 L xs).2 hi
  rw [hy] at c5
  exact vk_getf c1 c2 g2 hS c5 (c6 _ fk_J0_15) (fun x h => h) hd (go_use K hc hw hS hl h1 h2)
theorem go_tlen (hd : decode y.2.1 pc = .ok (.arraylength, 1)) (hi : y.2.2.2.2.2 = some (true, L, xs)) (K : L < 1000 → go z d kc ks y Q X (pc + 1) ls (.int (iI (L : Nat)) :: st) μ) : go z d kc ks y Q X pc ls (.ref 6101 :: st) μ := by
  intro p l e R s m args below meth c D cy X0 mc ms nn ad hc H locs cells slots lsA dv hw hS hl h1 h2
  obtain ⟨c1, c2, c3, c4, c5, c6, c7, c8, c9, c10, c11, c12, c13, c14, c15, c16, c17, c18, c19⟩ := id hc
  obtain ⟨g0, g1, g2, g3, g4⟩ := (c19 L xs).2 hi
  exact va_tlen c1 c2 g4 hS (iI_of (by omega)) hd (go_use (K g0) hc hw hS hl h1 h2)
theorem go_tbal9 {k : Nat} (hd : decode y.2.1 pc = .ok (.baload, 1)) (hi : y.2.2.2.2.2 = some (true, L, xs)) (hk : k < L) (K : go z d kc ks y Q X (pc + 1) ls (.int (iI (chx xs k)) :: st) μ) : go z d kc ks y Q X pc ls (.int (iI (k : Nat)) :: .ref 6101 :: st) μ := by
  intro p l e R s m args below meth c D cy X0 mc ms nn ad hc H locs cells slots lsA dv hw hS hl h1 h2
  obtain ⟨c1, c2, c3, c4, c5, c6, c7, c8, c9, c10, c11, c12, c13, c14, c15, c16, c17, c18, c19⟩ := id hc
  obtain ⟨g0, g1, g2, g3, g4⟩ := (c19 L xs).2 hi
  refine va_tb c1 c2 g4 hS (iI_in hk (by omega)) (v := .int (iI (chx xs k))) ?_ hd (go_use K hc hw hS hl h1 h2)
  rw [iI_clamp (by omega), iI_as]
/-- an instance method of String on the text -/
theorem go_callT {z' d' kc' ks' kc2 ks2 idx n : Nat} {y' : MI} {as rest : List Value} (hd : decode y.2.1 pc = .ok (.invokevirtual idx, 3)) (hst : st = as.reverse ++ .ref 6100 :: rest) (hlk : Cond.methodLink y.1.cls idx y'.1 ∈ aw) (hm : mok0 y' n ∧ Cond.instanceMethod y'.1 ∈ aw ∧ Cond.selects y'.1.cls y'.1 y'.1 ∈ aw) (hi : y.2.2.2.2.2 = some (true, L, xs)) (hsc : y'.2.2.2.2.2 = y.2.2.2.2.2) (hy' : y'.1.cls = RJ0)
    (hn : as.length = n) (hl' : n + 1 ≤ y'.2.2.1) (hcat : ∀ v ∈ as, v.category = 1) (hW : (rest.map fun v => v.category).sum ≤ 8) (hz : z' ≤ z) (hdd : d' + 1 ≤ d) (hk : kc' + kc2 ≤ kc) (hks : ks' + ks2 ≤ ks) (hh : y.2.2.2.2.1 = [])
    (K : mt z' d' kc' ks' y' (.ref 6100 :: as) (fun r μ' => go z d kc2 ks2 y Q X (pc + 3) ls (psh r rest) μ') X μ) : go z d kc ks y Q X pc ls st μ := by
  subst hst
  intro p l e R s m args below meth c D cy X0 mc ms nn ad hc H locs cells slots lsA dv hw hS hl h1 h2
  obtain ⟨c1, c2, c3, c4, c5, c6, c7, c8, c9, c10, c11, c12, c13, c14, c15, c16, c17, c18, c19⟩ := id hc
  obtain ⟨⟨k1, k2, k3, k4, k5, k6⟩, k7, k8⟩ := hm
  obtain ⟨g0, g1, g2, g3, g4⟩ := (c19 L xs).2 hi
  have hM := mt_vxS (l := l) (D := D) (cy := cy) (X0 := X0) (n := nn) (ad := ad) (dv := dv) K k3 k6 (by simp; omega) (by simpa using ⟨rfl, hcat⟩) c18 (by omega) c10
  have hcw : CallW R s args y.1.cls y'.1.cls idx y'.1 y'.2.1 y'.2.2.1 y'.2.2.2.1 (wsa y') (rmd d' kc' ks') kc' ks' n :=
    ⟨callB_of n c6 (good_wsa k1) rfl rfl rfl (c6 _ k2) (c6 _ hlk) k4 ⟨by show d' + 1 ≤ _; omega, by show 8 + (y'.2.2.1 + 11) + 40 * d' ≤ _; omega⟩, c6 _ k7, c6 _ k8⟩
  have hp : PreV s H y'.1.cls (ad 6100) (gPs y' D cy X0 nn ad dv μ (.ref 6100 :: as)) (as.map (av_l ad)) :=
    ⟨gPs_blind, by rw [hy']; exact va_Orecv g1 hS, fun U hU hWU => ⟨⟨rfl, by rw [hU]; exact hw, by rw [hU]; exact kx_moved hWU hS c8, by rw [hU]; exact AX_le c15 hS.1⟩, scx_mv c19 hsc hU hWU hS⟩⟩
  refine go_backH (kc' := kc') (ks' := ks') (kc2 := kc2) (ks2 := ks2) (rest := rest) hc hS hl (by omega) (by omega) (a := (Value.ref (ad 6100) :: as.map (av_l ad)).toArray) (go_thru hc hh (kc2 := kc2) (ks2 := ks2) (by omega) (by omega)) ?_
  refine vx_runV (As := as.map (av_l ad)) (b := ad 6100) (nL := y.2.2.1) ⟨c1, c2, c4, c5, c6⟩ hM hcw hp rfl (by rw [List.length_map]; exact hn) hl.1 ?_ (lv_room (by rw [av_sum]; exact hW)) hd ⟨by omega, by omega⟩
  simp [List.map_append, List.map_reverse, av_l]
end TT
section TT2
variable {z : Nat} {Q : Option Value → Mem → Prop} {X : String → Mem → Prop} {μ : Mem} {L : Nat} {xs : Nat → Int32}
theorem tt_coder (K : Q (some (.int (iI 0))) μ) : mt z 0 0 0 (wt mJ0_coder_7d493 L xs) [.ref 6100] Q X μ := by
  show go z 0 0 0 (wt mJ0_coder_7d493 L xs) Q X 0 [.ref 6100] [] _
  refine go_kst (y := (wt mJ0_coder_7d493 L xs)) (pc := 0) dJ0_coder_7d493_0 rfl ?_
  refine go_if_eq (y := (wt mJ0_coder_7d493 L xs)) (pc := 3) (tgt := 13) dJ0_coder_7d493_3 (by decide) ⟨by decide, by decide⟩ (fun h => absurd h (by decide)) (fun _ => ?_)
  refine go_aload_n (y := (wt mJ0_coder_7d493 L xs)) (pc := 6) dJ0_coder_7d493_6 rfl rfl ?_
  refine go_tcod (y := (wt mJ0_coder_7d493 L xs)) (pc := 7) dJ0_coder_7d493_7 rfl rfl ?_
  refine go_goto (y := (wt mJ0_coder_7d493 L xs)) (pc := 10) (tgt := 14) dJ0_coder_7d493_10 (by decide) ?_
  exact go_nreturn (y := (wt mJ0_coder_7d493 L xs)) (pc := 14) dJ0_coder_7d493_14 rfl rfl K
theorem tt_isLatin1 (K : Q (some (.int (iI 1))) μ) : mt z 0 0 0 (wt mJ0_isLatin1_aae02 L xs) [.ref 6100] Q X μ := by
  show go z 0 0 0 (wt mJ0_isLatin1_aae02 L xs) Q X 0 [.ref 6100] [] _
  refine go_kst (y := (wt mJ0_isLatin1_aae02 L xs)) (pc := 0) dJ0_isLatin1_aae02_0 rfl ?_
  refine go_if_eq (y := (wt mJ0_isLatin1_aae02 L xs)) (pc := 3) (tgt := 17) dJ0_isLatin1_aae02_3 (by decide) ⟨by decide, by decide⟩ (fun h => absurd h (by decide)) (fun _ => ?_)
  refine go_aload_n (y := (wt mJ0_isLatin1_aae02 L xs)) (pc := 6) dJ0_isLatin1_aae02_6 rfl rfl ?_
  refine go_tcod (y := (wt mJ0_isLatin1_aae02 L xs)) (pc := 7) dJ0_isLatin1_aae02_7 rfl rfl ?_
  refine go_if_ne (y := (wt mJ0_isLatin1_aae02 L xs)) (pc := 10) (tgt := 17) dJ0_isLatin1_aae02_10 (by decide) ⟨by decide, by decide⟩ (fun h => absurd rfl h) (fun _ => ?_)
  refine go_iconst (y := (wt mJ0_isLatin1_aae02 L xs)) (pc := 13) dJ0_isLatin1_aae02_13 ?_
  refine go_goto (y := (wt mJ0_isLatin1_aae02 L xs)) (pc := 14) (tgt := 18) dJ0_isLatin1_aae02_14 (by decide) ?_
  exact go_zreturn (y := (wt mJ0_isLatin1_aae02 L xs)) (pc := 18) dJ0_isLatin1_aae02_18 rfl (Or.inr rfl) K
theorem tt_length (K : Q (some (.int (iI (L : Nat)))) μ) : mt z 1 0 0 (wt mJ0_length_8abf5 L xs) [.ref 6100] Q X μ := by
  show go z 1 0 0 (wt mJ0_length_8abf5 L xs) Q X 0 [.ref 6100] [] _
  refine go_aload_n (y := (wt mJ0_length_8abf5 L xs)) (pc := 0) dJ0_length_8abf5_0 rfl rfl ?_
  refine go_tval (y := (wt mJ0_length_8abf5 L xs)) (pc := 1) dJ0_length_8abf5_1 rfl rfl ?_
  refine go_tlen (y := (wt mJ0_length_8abf5 L xs)) (pc := 4) dJ0_length_8abf5_4 rfl (fun hL => ?_)
  refine go_aload_n (y := (wt mJ0_length_8abf5 L xs)) (pc := 5) dJ0_length_8abf5_5 rfl rfl ?_
  refine go_callT (y := (wt mJ0_length_8abf5 L xs)) (pc := 6) (y' := (wt mJ0_coder_7d493 L xs)) (as := []) (z' := z) (d' := 0) (kc' := 0) (ks' := 0) (kc2 := 0) (ks2 := 0) dJ0_length_8abf5_6 rfl ml_J0_335 (okV_t ok_J0_coder_7d493) rfl rfl rfl rfl (Nat.le_of_ble_eq_true rfl) (by intro v hv; cases hv) (Nat.le_of_ble_eq_true rfl) (Nat.le_refl _) (by decide) (by decide) (by decide) rfl (tt_coder ?_)
  refine go_ishr (y := (wt mJ0_length_8abf5 L xs)) (pc := 9) (v := (L : Nat)) dJ0_length_8abf5_9 (sb_shr0 _) ?_
  exact go_ireturn (y := (wt mJ0_length_8abf5 L xs)) (pc := 10) dJ0_length_8abf5_10 rfl K
theorem tt_lcharAt {k : Nat} (hk : k < L) (hx : ∀ j, j < L → 0 ≤ chx xs j ∧ chx xs j < 128) (K : Q (some (.int (iI (chx xs k)))) μ) : mt z 2 0 0 (wt mJ1_charAt_3b067 L xs) [.ref 6101, .int (iI (k : Nat))] Q X μ := by
  have hc := hx k hk
  show go z 2 0 0 (wt mJ1_charAt_3b067 L xs) Q X 0 [.ref 6101, .int (iI (k : Nat))] [] _
  refine go_iload_n (y := (wt mJ1_charAt_3b067 L xs)) (pc := 0) dJ1_charAt_3b067_0 rfl rfl ?_
  refine go_aload_n (y := (wt mJ1_charAt_3b067 L xs)) (pc := 1) dJ1_charAt_3b067_1 rfl rfl ?_
  refine go_tlen (y := (wt mJ1_charAt_3b067 L xs)) (pc := 2) dJ1_charAt_3b067_2 rfl (fun hL => ?_)
  refine go_callS2 (y := (wt mJ1_charAt_3b067 L xs)) (pc := 3) (y' := mJ0_checkIndex_df160) (z' := z) (d' := 1) (kc' := 0) (ks' := 0) (kc2 := 0) (ks2 := 0) dJ1_charAt_3b067_3 ml_J1_9 ok_J0_checkIndex_df160 ⟨rfl, rfl⟩ ⟨by decide, Nat.le_refl _, by decide, by decide, by decide⟩ (Nat.le_of_ble_eq_true rfl) rfl (k_check2 (by omega) (by omega) ?_)
  refine go_aload_n (y := (wt mJ1_charAt_3b067 L xs)) (pc := 6) dJ1_charAt_3b067_6 rfl rfl ?_
  refine go_iload_n (y := (wt mJ1_charAt_3b067 L xs)) (pc := 7) dJ1_charAt_3b067_7 rfl rfl ?_
  refine go_tbal9 (y := (wt mJ1_charAt_3b067 L xs)) (pc := 8) dJ1_charAt_3b067_8 rfl hk ?_
  refine go_sipush (y := (wt mJ1_charAt_3b067 L xs)) (pc := 9) dJ1_charAt_3b067_9 (by decide) ?_
  refine go_iand (y := (wt mJ1_charAt_3b067 L xs)) (pc := 12) (v := chx xs k) dJ1_charAt_3b067_12 ?_ ?_
  · rw [and255 (by omega)]
    unfold ub
    rw [if_neg (by omega)]
  refine go_i2c (y := (wt mJ1_charAt_3b067 L xs)) (pc := 13) (v := chx xs k) dJ1_charAt_3b067_13 (i2c_s (by omega)) ?_
  refine go_nreturn (y := (wt mJ1_charAt_3b067 L xs)) (pc := 14) dJ1_charAt_3b067_14 rfl ?_ K
  have e : iI (chx xs k) = nI (chx xs k).toNat := by
    rw [show nI (chx xs k).toNat = iI ((chx xs k).toNat : Int) from iI_of (by omega)]
    congr 1
    omega
  rw [e]
  exact (pk_charN (by omega)).1
theorem tt_charAt {k : Nat} (hk : k < L) (hx : ∀ j, j < L → 0 ≤ chx xs j ∧ chx xs j < 128) (K : Q (some (.int (iI (chx xs k)))) μ) : mt z 3 0 0 (wt mJ0_charAt_5068e L xs) [.ref 6100, .int (iI (k : Nat))] Q X μ := by
  have hc := hx k hk
  show go z 3 0 0 (wt mJ0_charAt_5068e L xs) Q X 0 [.ref 6100, .int (iI (k : Nat))] [] _
  refine go_aload_n (y := (wt mJ0_charAt_5068e L xs)) (pc := 0) dJ0_charAt_5068e_0 rfl rfl ?_
  refine go_callT (y := (wt mJ0_charAt_5068e L xs)) (pc := 1) (y' := (wt mJ0_isLatin1_aae02 L xs)) (as := []) (z' := z) (d' := 0) (kc' := 0) (ks' := 0) (kc2 := 0) (ks2 := 0) dJ0_charAt_5068e_1 rfl ml_J0_492 (okV_t ok_J0_isLatin1_aae02) rfl rfl rfl rfl (Nat.le_of_ble_eq_true rfl) (by intro v hv; cases hv) (Nat.le_of_ble_eq_true rfl) (Nat.le_refl _) (by decide) (by decide) (by decide) rfl (tt_isLatin1 ?_)
  refine go_if_eq (y := (wt mJ0_charAt_5068e L xs)) (pc := 4) (tgt := 16) dJ0_charAt_5068e_4 (by decide) ⟨by decide, by decide⟩ (fun h => absurd h (by decide)) (fun _ => ?_)
  refine go_aload_n (y := (wt mJ0_charAt_5068e L xs)) (pc := 7) dJ0_charAt_5068e_7 rfl rfl ?_
  refine go_tval (y := (wt mJ0_charAt_5068e L xs)) (pc := 8) dJ0_charAt_5068e_8 rfl rfl ?_
  refine go_iload_n (y := (wt mJ0_charAt_5068e L xs)) (pc := 11) dJ0_charAt_5068e_11 rfl rfl ?_
  refine go_callSs2 (y := (wt mJ0_charAt_5068e L xs)) (pc := 12) (y' := (wt mJ1_charAt_3b067 L xs)) (z' := z) (d' := 2) (kc' := 0) (ks' := 0) (kc2 := 0) (ks2 := 0) dJ0_charAt_5068e_12 ml_J0_495 rfl (okS_t ok_J1_charAt_3b067) ⟨rfl, rfl⟩ ⟨Nat.le_of_ble_eq_true rfl, Nat.le_refl _, by decide, by decide, by decide⟩ (Nat.le_of_ble_eq_true rfl) rfl (tt_lcharAt hk hx ?_)
  refine go_nreturn (y := (wt mJ0_charAt_5068e L xs)) (pc := 15) dJ0_charAt_5068e_15 rfl ?_ K
  have e : iI (chx xs k) = nI (chx xs k).toNat := by
    rw [show nI (chx xs k).toNat = iI ((chx xs k).toNat : Int) from iI_of (by omega)]
    congr 1
    omega
  rw [e]
  exact (pk_charN (by omega)).1
end TT2
