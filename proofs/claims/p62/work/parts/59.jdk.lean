/-! THE JDK: texts that are constants -/
theorem dJ0_length_8abf5_0 : decode cJ0_length_8abf5 0 = .ok (.aload_n 0, 1) := by decide +kernel
theorem dJ0_length_8abf5_1 : decode cJ0_length_8abf5 1 = .ok (.getfield 9, 3) := by decide +kernel
theorem dJ0_length_8abf5_4 : decode cJ0_length_8abf5 4 = .ok (.arraylength, 1) := by decide +kernel
theorem dJ0_length_8abf5_5 : decode cJ0_length_8abf5 5 = .ok (.aload_n 0, 1) := by decide +kernel
theorem dJ0_length_8abf5_6 : decode cJ0_length_8abf5 6 = .ok (.invokevirtual 335, 3) := by decide +kernel
theorem dJ0_length_8abf5_9 : decode cJ0_length_8abf5 9 = .ok (.ishr, 1) := by decide +kernel
theorem dJ0_length_8abf5_10 : decode cJ0_length_8abf5 10 = .ok (.ireturn, 1) := by decide +kernel
theorem dJ0_coder_7d493_0 : decode cJ0_coder_7d493 0 = .ok (.getstatic 38, 3) := by decide +kernel
theorem dJ0_coder_7d493_3 : decode cJ0_coder_7d493 3 = .ok (.ifCond .eq 10, 3) := by decide +kernel
theorem dJ0_coder_7d493_6 : decode cJ0_coder_7d493 6 = .ok (.aload_n 0, 1) := by decide +kernel
theorem dJ0_coder_7d493_7 : decode cJ0_coder_7d493 7 = .ok (.getfield 15, 3) := by decide +kernel
theorem dJ0_coder_7d493_10 : decode cJ0_coder_7d493 10 = .ok (.goto 4, 3) := by decide +kernel
theorem dJ0_coder_7d493_13 : decode cJ0_coder_7d493 13 = .ok (.iconst 1, 1) := by decide +kernel
theorem dJ0_coder_7d493_14 : decode cJ0_coder_7d493 14 = .ok (.ireturn, 1) := by decide +kernel
theorem dJ0_isLatin1_aae02_0 : decode cJ0_isLatin1_aae02 0 = .ok (.getstatic 38, 3) := by decide +kernel
theorem dJ0_isLatin1_aae02_3 : decode cJ0_isLatin1_aae02 3 = .ok (.ifCond .eq 14, 3) := by decide +kernel
theorem dJ0_isLatin1_aae02_6 : decode cJ0_isLatin1_aae02 6 = .ok (.aload_n 0, 1) := by decide +kernel
theorem dJ0_isLatin1_aae02_7 : decode cJ0_isLatin1_aae02 7 = .ok (.getfield 15, 3) := by decide +kernel
theorem dJ0_isLatin1_aae02_10 : decode cJ0_isLatin1_aae02 10 = .ok (.ifCond .ne 7, 3) := by decide +kernel
theorem dJ0_isLatin1_aae02_13 : decode cJ0_isLatin1_aae02 13 = .ok (.iconst 1, 1) := by decide +kernel
theorem dJ0_isLatin1_aae02_14 : decode cJ0_isLatin1_aae02 14 = .ok (.goto 4, 3) := by decide +kernel
theorem dJ0_isLatin1_aae02_17 : decode cJ0_isLatin1_aae02 17 = .ok (.iconst 0, 1) := by decide +kernel
theorem dJ0_isLatin1_aae02_18 : decode cJ0_isLatin1_aae02 18 = .ok (.ireturn, 1) := by decide +kernel
theorem dJ0_charAt_5068e_0 : decode cJ0_charAt_5068e 0 = .ok (.aload_n 0, 1) := by decide +kernel
theorem dJ0_charAt_5068e_1 : decode cJ0_charAt_5068e 1 = .ok (.invokevirtual 492, 3) := by decide +kernel
theorem dJ0_charAt_5068e_4 : decode cJ0_charAt_5068e 4 = .ok (.ifCond .eq 12, 3) := by decide +kernel
theorem dJ0_charAt_5068e_7 : decode cJ0_charAt_5068e 7 = .ok (.aload_n 0, 1) := by decide +kernel
theorem dJ0_charAt_5068e_8 : decode cJ0_charAt_5068e 8 = .ok (.getfield 9, 3) := by decide +kernel
theorem dJ0_charAt_5068e_11 : decode cJ0_charAt_5068e 11 = .ok (.iload_n 1, 1) := by decide +kernel
theorem dJ0_charAt_5068e_12 : decode cJ0_charAt_5068e 12 = .ok (.invokestatic 495, 3) := by decide +kernel
theorem dJ0_charAt_5068e_15 : decode cJ0_charAt_5068e 15 = .ok (.ireturn, 1) := by decide +kernel
theorem dJ0_charAt_5068e_16 : decode cJ0_charAt_5068e 16 = .ok (.aload_n 0, 1) := by decide +kernel
theorem dJ0_charAt_5068e_17 : decode cJ0_charAt_5068e 17 = .ok (.getfield 9, 3) := by decide +kernel
theorem dJ0_charAt_5068e_20 : decode cJ0_charAt_5068e 20 = .ok (.iload_n 1, 1) := by decide +kernel
theorem dJ0_charAt_5068e_21 : decode cJ0_charAt_5068e 21 = .ok (.invokestatic 498, 3) := by decide +kernel
theorem dJ0_charAt_5068e_24 : decode cJ0_charAt_5068e 24 = .ok (.ireturn, 1) := by decide +kernel
theorem dJ0_checkIndex_df160_0 : decode cJ0_checkIndex_df160 0 = .ok (.iload_n 0, 1) := by decide +kernel
theorem dJ0_checkIndex_df160_1 : decode cJ0_checkIndex_df160 1 = .ok (.iload_n 1, 1) := by decide +kernel
theorem dJ0_checkIndex_df160_2 : decode cJ0_checkIndex_df160 2 = .ok (.getstatic 1053, 3) := by decide +kernel
theorem dJ0_checkIndex_df160_5 : decode cJ0_checkIndex_df160 5 = .ok (.invokestatic 1059, 3) := by decide +kernel
theorem dJ0_checkIndex_df160_8 : decode cJ0_checkIndex_df160 8 = .ok (.pop, 1) := by decide +kernel
theorem dJ0_checkIndex_df160_9 : decode cJ0_checkIndex_df160 9 = .ok (.return_, 1) := by decide +kernel
theorem dJ1_charAt_3b067_0 : decode cJ1_charAt_3b067 0 = .ok (.iload_n 1, 1) := by decide +kernel
theorem dJ1_charAt_3b067_1 : decode cJ1_charAt_3b067 1 = .ok (.aload_n 0, 1) := by decide +kernel
theorem dJ1_charAt_3b067_2 : decode cJ1_charAt_3b067 2 = .ok (.arraylength, 1) := by decide +kernel
theorem dJ1_charAt_3b067_3 : decode cJ1_charAt_3b067 3 = .ok (.invokestatic 9, 3) := by decide +kernel
theorem dJ1_charAt_3b067_6 : decode cJ1_charAt_3b067 6 = .ok (.aload_n 0, 1) := by decide +kernel
theorem dJ1_charAt_3b067_7 : decode cJ1_charAt_3b067 7 = .ok (.iload_n 1, 1) := by decide +kernel
theorem dJ1_charAt_3b067_8 : decode cJ1_charAt_3b067 8 = .ok (.baload, 1) := by decide +kernel
theorem dJ1_charAt_3b067_9 : decode cJ1_charAt_3b067 9 = .ok (.sipush 255, 3) := by decide +kernel
theorem dJ1_charAt_3b067_12 : decode cJ1_charAt_3b067 12 = .ok (.iand, 1) := by decide +kernel
theorem dJ1_charAt_3b067_13 : decode cJ1_charAt_3b067 13 = .ok (.i2c, 1) := by decide +kernel
theorem dJ1_charAt_3b067_14 : decode cJ1_charAt_3b067 14 = .ok (.ireturn, 1) := by decide +kernel
theorem dJ3_checkIndex_8e157_0 : decode cJ3_checkIndex_8e157 0 = .ok (.iload_n 0, 1) := by decide +kernel
theorem dJ3_checkIndex_8e157_1 : decode cJ3_checkIndex_8e157 1 = .ok (.ifCond .lt 8, 3) := by decide +kernel
theorem dJ3_checkIndex_8e157_4 : decode cJ3_checkIndex_8e157 4 = .ok (.iload_n 0, 1) := by decide +kernel
theorem dJ3_checkIndex_8e157_5 : decode cJ3_checkIndex_8e157 5 = .ok (.iload_n 1, 1) := by decide +kernel
theorem dJ3_checkIndex_8e157_6 : decode cJ3_checkIndex_8e157 6 = .ok (.if_icmp .lt 10, 3) := by decide +kernel
theorem dJ3_checkIndex_8e157_9 : decode cJ3_checkIndex_8e157 9 = .ok (.aload_n 2, 1) := by decide +kernel
theorem dJ3_checkIndex_8e157_10 : decode cJ3_checkIndex_8e157 10 = .ok (.iload_n 0, 1) := by decide +kernel
theorem dJ3_checkIndex_8e157_11 : decode cJ3_checkIndex_8e157 11 = .ok (.iload_n 1, 1) := by decide +kernel
theorem dJ3_checkIndex_8e157_12 : decode cJ3_checkIndex_8e157 12 = .ok (.invokestatic 95, 3) := by decide +kernel
theorem dJ3_checkIndex_8e157_15 : decode cJ3_checkIndex_8e157 15 = .ok (.athrow, 1) := by decide +kernel
theorem dJ3_checkIndex_8e157_16 : decode cJ3_checkIndex_8e157 16 = .ok (.iload_n 0, 1) := by decide +kernel
theorem dJ3_checkIndex_8e157_17 : decode cJ3_checkIndex_8e157 17 = .ok (.ireturn, 1) := by decide +kernel
def mJ0_length_8abf5 : MI := (yJ0_length_8abf5, cJ0_length_8abf5, 1, (some .int), [], none)
def mJ0_coder_7d493 : MI := (yJ0_coder_7d493, cJ0_coder_7d493, 1, (some .byte), [], none)
def mJ0_isLatin1_aae02 : MI := (yJ0_isLatin1_aae02, cJ0_isLatin1_aae02, 1, (some .boolean), [], none)
def mJ0_charAt_5068e : MI := (yJ0_charAt_5068e, cJ0_charAt_5068e, 2, (some .char), [], none)
def mJ0_checkIndex_df160 : MI := (yJ0_checkIndex_df160, cJ0_checkIndex_df160, 2, none, [], none)
def mJ1_charAt_3b067 : MI := (yJ1_charAt_3b067, cJ1_charAt_3b067, 2, (some .char), [], none)
def mJ3_checkIndex_8e157 : MI := (yJ3_checkIndex_8e157, cJ3_checkIndex_8e157, 3, (some .int), [], none)
theorem ok_J0_length_8abf5 : mokV mJ0_length_8abf5 0 := ⟨⟨tb_in 389 (by decide +kernel) (by decide +kernel), tb_in 14 (by decide +kernel) (by decide +kernel), by decide +kernel, ⟨by decide +kernel, by decide +kernel, by decide +kernel⟩, by decide, rfl, rfl⟩, tb_in 387 (by decide +kernel) (by decide +kernel), tb_in 388 (by decide +kernel) (by decide +kernel)⟩
theorem ok_J0_coder_7d493 : mokV mJ0_coder_7d493 0 := ⟨⟨tb_in 393 (by decide +kernel) (by decide +kernel), tb_in 14 (by decide +kernel) (by decide +kernel), by decide +kernel, ⟨by decide +kernel, by decide +kernel, by decide +kernel⟩, by decide, rfl, rfl⟩, tb_in 391 (by decide +kernel) (by decide +kernel), tb_in 392 (by decide +kernel) (by decide +kernel)⟩
theorem ok_J0_isLatin1_aae02 : mokV mJ0_isLatin1_aae02 0 := ⟨⟨tb_in 402 (by decide +kernel) (by decide +kernel), tb_in 14 (by decide +kernel) (by decide +kernel), by decide +kernel, ⟨by decide +kernel, by decide +kernel, by decide +kernel⟩, by decide, rfl, rfl⟩, tb_in 400 (by decide +kernel) (by decide +kernel), tb_in 401 (by decide +kernel) (by decide +kernel)⟩
theorem ok_J0_charAt_5068e : mokV mJ0_charAt_5068e 1 := ⟨⟨tb_in 398 (by decide +kernel) (by decide +kernel), tb_in 14 (by decide +kernel) (by decide +kernel), by decide +kernel, ⟨by decide +kernel, by decide +kernel, by decide +kernel⟩, by decide, rfl, rfl⟩, tb_in 396 (by decide +kernel) (by decide +kernel), tb_in 397 (by decide +kernel) (by decide +kernel)⟩
theorem ok_J0_checkIndex_df160 : mokS mJ0_checkIndex_df160 2 := ⟨⟨tb_in 408 (by decide +kernel) (by decide +kernel), tb_in 14 (by decide +kernel) (by decide +kernel), by decide +kernel, ⟨by decide +kernel, by decide +kernel, by decide +kernel⟩, by decide, rfl, rfl⟩, tb_in 407 (by decide +kernel) (by decide +kernel)⟩
theorem ok_J1_charAt_3b067 : mokS mJ1_charAt_3b067 2 := ⟨⟨tb_in 405 (by decide +kernel) (by decide +kernel), tb_in 16 (by decide +kernel) (by decide +kernel), by decide +kernel, ⟨by decide +kernel, by decide +kernel, by decide +kernel⟩, by decide, rfl, rfl⟩, tb_in 404 (by decide +kernel) (by decide +kernel)⟩
theorem ok_J3_checkIndex_8e157 : mokS mJ3_checkIndex_8e157 3 := ⟨⟨tb_in 413 (by decide +kernel) (by decide +kernel), tb_in 17 (by decide +kernel) (by decide +kernel), by decide +kernel, ⟨by decide +kernel, by decide +kernel, by decide +kernel⟩, by decide, rfl, rfl⟩, tb_in 412 (by decide +kernel) (by decide +kernel)⟩
theorem ml_X8_19 : Cond.methodLink RX8 19 yJ0_length_8abf5 ∈ aw := tb_in 386 (by decide +kernel) (by decide +kernel)
theorem ml_X9_46 : Cond.methodLink RX9 46 yJ0_length_8abf5 ∈ aw := tb_in 469 (by decide +kernel) (by decide +kernel)
theorem ml_J5_32 : Cond.methodLink RJ5 32 yJ0_length_8abf5 ∈ aw := tb_in 1450 (by decide +kernel) (by decide +kernel)
theorem ml_J0_335 : Cond.methodLink RJ0 335 yJ0_coder_7d493 ∈ aw := tb_in 390 (by decide +kernel) (by decide +kernel)
theorem ml_J5_40 : Cond.methodLink RJ5 40 yJ0_coder_7d493 ∈ aw := tb_in 1453 (by decide +kernel) (by decide +kernel)
theorem ml_J0_492 : Cond.methodLink RJ0 492 yJ0_isLatin1_aae02 ∈ aw := tb_in 399 (by decide +kernel) (by decide +kernel)
theorem ml_X8_25 : Cond.methodLink RX8 25 yJ0_charAt_5068e ∈ aw := tb_in 395 (by decide +kernel) (by decide +kernel)
theorem ml_X9_51 : Cond.methodLink RX9 51 yJ0_charAt_5068e ∈ aw := tb_in 470 (by decide +kernel) (by decide +kernel)
theorem ml_J1_9 : Cond.methodLink RJ1 9 yJ0_checkIndex_df160 ∈ aw := tb_in 406 (by decide +kernel) (by decide +kernel)
theorem ml_J2_414 : Cond.methodLink RJ2 414 yJ0_checkIndex_df160 ∈ aw := tb_in 423 (by decide +kernel) (by decide +kernel)
theorem ml_J0_495 : Cond.methodLink RJ0 495 yJ1_charAt_3b067 ∈ aw := tb_in 403 (by decide +kernel) (by decide +kernel)
theorem ml_J0_1059 : Cond.methodLink RJ0 1059 yJ3_checkIndex_8e157 ∈ aw := tb_in 411 (by decide +kernel) (by decide +kernel)
theorem fk_J0_9 : Cond.fieldLink RJ0 9 "java/lang/String" "value" "[B" ∈ aw := tb_in 1642 (by decide +kernel) (by decide +kernel)
theorem fk_J0_15 : Cond.fieldLink RJ0 15 "java/lang/String" "coder" "B" ∈ aw := tb_in 1643 (by decide +kernel) (by decide +kernel)
theorem fk_J0_38 : Cond.fieldLink RJ0 38 "java/lang/String" "COMPACT_STRINGS" "Z" ∈ aw := tb_in 394 (by decide +kernel) (by decide +kernel)
theorem fk_J0_1053 : Cond.fieldLink RJ0 1053 "jdk/internal/util/Preconditions" "SIOOBE_FORMATTER" "Ljava/util/function/BiFunction;" ∈ aw := tb_in 409 (by decide +kernel) (by decide +kernel)
def chz (tx : String) (j : Nat) : Int := ((tx.toList.map Char.toNat).getD j 0 : Nat)
theorem iI_of {n : Nat} (h : n < 2147483648) : Int32.ofNat n = iI (n : Int) := by
  apply Int32.toInt_inj.mp
  rw [iI_t ⟨by omega, by omega⟩]
  exact nI_toInt h
theorem sc_asc : ∀ q ∈ sc_l, (∀ c ∈ q.2.2.toList, 32 ≤ c.toNat ∧ c.toNat < 127) ∧ q.2.2.length = q.2.2.toList.length ∧ q.2.2.length < 200 := by decide +kernel
theorem sc_bd {i : Nat} {q : String × Nat × String} (hi : sc_l[i]? = some q) : q.2.2.length < 200 := (sc_asc q (List.mem_of_getElem? hi)).2.2
theorem chz_b {i : Nat} {q : String × Nat × String} (hi : sc_l[i]? = some q) {j : Nat} (hj : j < q.2.2.length) : 32 ≤ chz q.2.2 j ∧ chz q.2.2 j < 127 := by
  obtain ⟨h1, h2, -⟩ := sc_asc q (List.mem_of_getElem? hi)
  rw [h2] at hj
  have e : (q.2.2.toList.map Char.toNat).getD j 0 = (q.2.2.toList[j]).toNat := by
    simp [List.getD, hj]
  have h3 := h1 _ (List.getElem_mem hj)
  unfold chz
  rw [e]
  omega
theorem scb_chz {i : Nat} {q : String × Nat × String} (hi : sc_l[i]? = some q) {j : Nat} (hj : j < q.2.2.length) : sc_b q.2.2 j = iI (chz q.2.2 j) := by
  have h := chz_b hi hj
  unfold chz at h ⊢
  unfold sc_b
  exact iI_of (by omega)
theorem i2c_k : ∀ n : Fin 65536, ((iI (n.val : Int)).toUInt32 % 65536).toInt32 = iI (n.val : Int) := by
  intro n
  apply i32_ext
  have h1 : (iI (n.val : Int)).toBitVec.toNat = n.val := by
    rw [← iI_of (by omega)]
    exact pk_tn (by omega)
  show ((iI (n.val : Int)).toUInt32 % 65536).toNat = _
  rw [UInt32.toNat_mod, h1]
  show (iI (n.val : Int)).toBitVec.toNat % 65536 = n.val
  rw [h1]
  exact Nat.mod_eq_of_lt n.isLt
theorem i2c_s {v : Int} (h : 0 ≤ v ∧ v < 65536) : ((iI v).toUInt32 % 65536).toInt32 = iI v := by
  have h1 := i2c_k ⟨v.toNat, by omega⟩
  rw [show (((⟨v.toNat, by omega⟩ : Fin 65536).val : Int)) = v by show (v.toNat : Int) = v; omega] at h1
  exact h1
section JStr
variable {z d kc ks : Nat} {y : MI} {Q : Option Value → Mem → Prop} {X : String → Mem → Prop} {pc : Nat} {ls st : List Value} {μ : Mem} {i : Nat} {q : String × Nat × String}
theorem go_nreturn {v : Int} {ty : FieldType} (hd : decode y.2.1 pc = .ok (.ireturn, 1)) (hr : y.2.2.2.1 = some ty) (hn : narrow ty (.int (iI v)) = .int (iI v)) (K : Q (some (.int (iI v))) μ) : go z d kc ks y Q X pc ls [.int (iI v)] μ := by
  intro p l e R s m args below meth c D cy X0 mc ms nn ad hc H locs cells slots lsA dv hw hS hl h1 h2
  obtain ⟨c1, c2, c3, c4, c5, c6, c7, c8, c9, c10, c11⟩ := hc
  refine W.widen (k := mc) (n := ms) (by omega) (by omega) (vx_ret ?_)
  exact W.zret (v := iI v) c1 c2 (c3.trans hr) hn (fun t ht hW => ⟨⟨_, μ, dv, rfl, K, by rw [ht]; exact hw⟩, hS.F ht⟩) hS.2.2 hd c7
theorem go_kval (hd : decode y.2.1 pc = .ok (.getfield 9, 3)) (hy : y.1.cls = RJ0) (hi : sc_l[i]? = some q) (K : go z d kc ks y Q X (pc + 3) ls (.ref (7200 + i) :: st) μ) : go z d kc ks y Q X pc ls (.ref (7000 + i) :: st) μ := by
  intro p l e R s m args below meth c D cy X0 mc ms nn ad hc H locs cells slots lsA dv hw hS hl h1 h2
  obtain ⟨c1, c2, c3, c4, c5, c6, c7, c8, c9⟩ := id hc
  obtain ⟨g1, g2, g3, g4, g5⟩ := c8.2.1 i q hi
  rw [hy] at c5
  exact vk_getf c1 c2 g4 hS c5 (c6 _ fk_J0_9) (fun x h => h) hd (go_use K hc hw hS hl h1 h2)
theorem go_kcod (hd : decode y.2.1 pc = .ok (.getfield 15, 3)) (hy : y.1.cls = RJ0) (hi : sc_l[i]? = some q) (K : go z d kc ks y Q X (pc + 3) ls (.int (iI 0) :: st) μ) : go z d kc ks y Q X pc ls (.ref (7000 + i) :: st) μ := by
  intro p l e R s m args below meth c D cy X0 mc ms nn ad hc H locs cells slots lsA dv hw hS hl h1 h2
  obtain ⟨c1, c2, c3, c4, c5, c6, c7, c8, c9⟩ := id hc
  obtain ⟨g1, g2, g3, g4, g5⟩ := c8.2.1 i q hi
  rw [hy] at c5
  exact vk_getf c1 c2 g3 hS c5 (c6 _ fk_J0_15) (fun x h => h) hd (go_use K hc hw hS hl h1 h2)
theorem go_kst (hd : decode y.2.1 pc = .ok (.getstatic 38, 3)) (hy : y.1.cls = RJ0) (K : go z d kc ks y Q X (pc + 3) ls (.int (iI 1) :: st) μ) : go z d kc ks y Q X pc ls st μ := by
  intro p l e R s m args below meth c D cy X0 mc ms nn ad hc H locs cells slots lsA dv hw hS hl h1 h2
  obtain ⟨c1, c2, c3, c4, c5, c6, c7, c8, c9⟩ := id hc
  rw [hy] at c5
  exact va_gets c1 c2 c8.2.2.2.2.1 hS c5 (c6 _ fk_J0_38) (fun x h => h) hd (go_use K hc hw hS hl h1 h2)
theorem go_kfm (hd : decode y.2.1 pc = .ok (.getstatic 1053, 3)) (hy : y.1.cls = RJ0) (K : ∀ w : Value, w.category = 1 → go z d kc ks y Q X (pc + 3) ls (w :: st) μ) : go z d kc ks y Q X pc ls st μ := by
  intro p l e R s m args below meth c D cy X0 mc ms nn ad hc H locs cells slots lsA dv hw hS hl h1 h2
  obtain ⟨c1, c2, c3, c4, c5, c6, c7, c8, c9⟩ := id hc
  rw [hy] at c5
  obtain ⟨v, hv, hZ⟩ := c8.2.2.2.2.2.1.2
  rcases hv with rfl | rfl
  · exact va_gets c1 c2 hZ hS c5 (c6 _ fk_J0_1053) (fun x h => h) hd (go_use (K .null rfl) hc hw hS hl h1 h2)
  · exact va_gets c1 c2 hZ hS c5 (c6 _ fk_J0_1053) (fun x h => h) hd (go_use (K (.ref 7502) rfl) hc hw hS hl h1 h2)
theorem go_klen (hd : decode y.2.1 pc = .ok (.arraylength, 1)) (hi : sc_l[i]? = some q) (K : go z d kc ks y Q X (pc + 1) ls (.int (iI (q.2.2.length : Nat)) :: st) μ) : go z d kc ks y Q X pc ls (.ref (7200 + i) :: st) μ := by
  intro p l e R s m args below meth c D cy X0 mc ms nn ad hc H locs cells slots lsA dv hw hS hl h1 h2
  obtain ⟨c1, c2, c3, c4, c5, c6, c7, c8, c9⟩ := id hc
  obtain ⟨g1, g2, g3, g4, g5⟩ := c8.2.1 i q hi
  exact va_tlen c1 c2 g5 hS (iI_of (by have := sc_bd hi; omega)) hd (go_use K hc hw hS hl h1 h2)
theorem go_kbal {k : Nat} (hd : decode y.2.1 pc = .ok (.baload, 1)) (hi : sc_l[i]? = some q) (hk : k < q.2.2.length) (K : go z d kc ks y Q X (pc + 1) ls (.int (iI (chz q.2.2 k)) :: st) μ) : go z d kc ks y Q X pc ls (.int (iI (k : Nat)) :: .ref (7200 + i) :: st) μ := by
  intro p l e R s m args below meth c D cy X0 mc ms nn ad hc H locs cells slots lsA dv hw hS hl h1 h2
  obtain ⟨c1, c2, c3, c4, c5, c6, c7, c8, c9⟩ := id hc
  obtain ⟨g1, g2, g3, g4, g5⟩ := c8.2.1 i q hi
  have hb := sc_bd hi
  refine va_tb c1 c2 g5 hS (iI_in hk (by omega)) (v := .int (iI (chz q.2.2 k))) ?_ hd (go_use K hc hw hS hl h1 h2)
  rw [iI_clamp (by omega), scb_chz hi hk]
/-- an instance method of String on a constant -/
theorem go_callK {z' d' kc' ks' kc2 ks2 idx n : Nat} {y' : MI} {as rest : List Value} (hd : decode y.2.1 pc = .ok (.invokevirtual idx, 3)) (hst : st = as.reverse ++ .ref (7000 + i) :: rest) (hlk : Cond.methodLink y.1.cls idx y'.1 ∈ aw) (hm : mokV y' n) (hi : sc_l[i]? = some q) (hy' : y'.1.cls = RJ0)
    (hn : as.length = n) (hl' : n + 1 ≤ y'.2.2.1) (hcat : ∀ v ∈ as, v.category = 1) (hW : (rest.map fun v => v.category).sum ≤ 8) (hz : z' ≤ z) (hdd : d' + 1 ≤ d) (hk : kc' + kc2 ≤ kc) (hks : ks' + ks2 ≤ ks) (hh : y.2.2.2.2.1 = [])
    (K : mt z' d' kc' ks' y' (.ref (7000 + i) :: as) (fun r μ' => go z d kc2 ks2 y Q X (pc + 3) ls (psh r rest) μ') X μ) : go z d kc ks y Q X pc ls st μ := by
  subst hst
  intro p l e R s m args below meth c D cy X0 mc ms nn ad hc H locs cells slots lsA dv hw hS hl h1 h2
  obtain ⟨c1, c2, c3, c4, c5, c6, c7, c8, c9, c10, c11, c12, c13, c14, c15, c16, c17, c18, c19⟩ := id hc
  obtain ⟨⟨k1, k2, k3, k4, k5, k6, k9⟩, k7, k8⟩ := hm
  obtain ⟨g1, g2, g3, g4, g5⟩ := c8.2.1 i q hi
  have hM := mt_vx (l := l) (D := D) (cy := cy) (X0 := X0) (n := nn) (ad := ad) (dv := dv) K k3 k6 k9 (by simp; omega) (by simpa using ⟨rfl, hcat⟩) c18 (by omega) c10
  have hcw : CallW R s args y.1.cls y'.1.cls idx y'.1 y'.2.1 y'.2.2.1 y'.2.2.2.1 (wsa y') (rmd d' kc' ks') kc' ks' n :=
    ⟨callB_of n c6 (good_wsa k1) rfl rfl rfl (c6 _ k2) (c6 _ hlk) k4 ⟨by show d' + 1 ≤ _; omega, by show 8 + (y'.2.2.1 + 11) + 40 * d' ≤ _; omega⟩, c6 _ k7, c6 _ k8⟩
  have hp : PreV s H y'.1.cls (ad (7000 + i)) (gP D cy X0 nn ad dv μ (.ref (7000 + i) :: as)) (as.map (av_l ad)) :=
    ⟨gP_blind, by rw [hy']; exact va_Orecv g2 hS, fun U hU hWU => ⟨rfl, by rw [hU]; exact hw, by rw [hU]; exact kx_moved hWU hS c8, by rw [hU]; exact AX_le c15 hS.1⟩⟩
  refine go_backH (kc' := kc') (ks' := ks') (kc2 := kc2) (ks2 := ks2) (rest := rest) hc hS hl (by omega) (by omega) (a := (Value.ref (ad (7000 + i)) :: as.map (av_l ad)).toArray) (go_thru hc hh (kc2 := kc2) (ks2 := ks2) (by omega) (by omega)) ?_
  refine vx_runV (As := as.map (av_l ad)) (b := ad (7000 + i)) (nL := y.2.2.1) ⟨c1, c2, c4, c5, c6⟩ hM hcw hp rfl (by rw [List.length_map]; exact hn) hl.1 ?_ (lv_room (by rw [av_sum]; exact hW)) hd ⟨by omega, by omega⟩
  simp [List.map_append, List.map_reverse, av_l]
end JStr
section JStr2
variable {z : Nat} {Q : Option Value → Mem → Prop} {X : String → Mem → Prop} {μ : Mem} {i : Nat} {q : String × Nat × String}
theorem k_coder (hi : sc_l[i]? = some q) (K : Q (some (.int (iI 0))) μ) : mt z 0 0 0 mJ0_coder_7d493 [.ref (7000 + i)] Q X μ := by
  show go z 0 0 0 mJ0_coder_7d493 Q X 0 [.ref (7000 + i)] [] _
  refine go_kst (y := mJ0_coder_7d493) (pc := 0) dJ0_coder_7d493_0 rfl ?_
  refine go_if_eq (y := mJ0_coder_7d493) (pc := 3) (tgt := 13) dJ0_coder_7d493_3 (by decide) ⟨by decide, by decide⟩ (fun h => absurd h (by decide)) (fun _ => ?_)
  refine go_aload_n (y := mJ0_coder_7d493) (pc := 6) dJ0_coder_7d493_6 rfl rfl ?_
  refine go_kcod (y := mJ0_coder_7d493) (pc := 7) dJ0_coder_7d493_7 rfl hi ?_
  refine go_goto (y := mJ0_coder_7d493) (pc := 10) (tgt := 14) dJ0_coder_7d493_10 (by decide) ?_
  exact go_nreturn (y := mJ0_coder_7d493) (pc := 14) dJ0_coder_7d493_14 rfl rfl K
theorem k_isLatin1 (hi : sc_l[i]? = some q) (K : Q (some (.int (iI 1))) μ) : mt z 0 0 0 mJ0_isLatin1_aae02 [.ref (7000 + i)] Q X μ := by
  show go z 0 0 0 mJ0_isLatin1_aae02 Q X 0 [.ref (7000 + i)] [] _
  refine go_kst (y := mJ0_isLatin1_aae02) (pc := 0) dJ0_isLatin1_aae02_0 rfl ?_
  refine go_if_eq (y := mJ0_isLatin1_aae02) (pc := 3) (tgt := 17) dJ0_isLatin1_aae02_3 (by decide) ⟨by decide, by decide⟩ (fun h => absurd h (by decide)) (fun _ => ?_)
  refine go_aload_n (y := mJ0_isLatin1_aae02) (pc := 6) dJ0_isLatin1_aae02_6 rfl rfl ?_
  refine go_kcod (y := mJ0_isLatin1_aae02) (pc := 7) dJ0_isLatin1_aae02_7 rfl hi ?_
  refine go_if_ne (y := mJ0_isLatin1_aae02) (pc := 10) (tgt := 17) dJ0_isLatin1_aae02_10 (by decide) ⟨by decide, by decide⟩ (fun h => absurd rfl h) (fun _ => ?_)
  refine go_iconst (y := mJ0_isLatin1_aae02) (pc := 13) dJ0_isLatin1_aae02_13 ?_
  refine go_goto (y := mJ0_isLatin1_aae02) (pc := 14) (tgt := 18) dJ0_isLatin1_aae02_14 (by decide) ?_
  exact go_zreturn (y := mJ0_isLatin1_aae02) (pc := 18) dJ0_isLatin1_aae02_18 rfl (Or.inr rfl) K
theorem k_length (hi : sc_l[i]? = some q) (K : Q (some (.int (iI (q.2.2.length : Nat)))) μ) : mt z 1 0 0 mJ0_length_8abf5 [.ref (7000 + i)] Q X μ := by
  show go z 1 0 0 mJ0_length_8abf5 Q X 0 [.ref (7000 + i)] [] _
  refine go_aload_n (y := mJ0_length_8abf5) (pc := 0) dJ0_length_8abf5_0 rfl rfl ?_
  refine go_kval (y := mJ0_length_8abf5) (pc := 1) dJ0_length_8abf5_1 rfl hi ?_
  refine go_klen (y := mJ0_length_8abf5) (pc := 4) dJ0_length_8abf5_4 hi ?_
  refine go_aload_n (y := mJ0_length_8abf5) (pc := 5) dJ0_length_8abf5_5 rfl rfl ?_
  refine go_callK (y := mJ0_length_8abf5) (pc := 6) (y' := mJ0_coder_7d493) (as := []) (z' := z) (d' := 0) (kc' := 0) (ks' := 0) (kc2 := 0) (ks2 := 0) dJ0_length_8abf5_6 rfl ml_J0_335 ok_J0_coder_7d493 hi rfl rfl (by decide) (by intro v hv; cases hv) (Nat.le_of_ble_eq_true rfl) (Nat.le_refl _) (by decide) (by decide) (by decide) rfl (k_coder hi ?_)
  refine go_ishr (y := mJ0_length_8abf5) (pc := 9) (v := (q.2.2.length : Nat)) dJ0_length_8abf5_9 (sb_shr0 _) ?_
  exact go_ireturn (y := mJ0_length_8abf5) (pc := 10) dJ0_length_8abf5_10 rfl K
theorem k_check3 {a b : Int} {w : Value} (ha : 0 ≤ a ∧ a < b) (hb : b < 1000) (K : Q (some (.int (iI a))) μ) : mt z 0 0 0 mJ3_checkIndex_8e157 [.int (iI a), .int (iI b), w] Q X μ := by
  show go z 0 0 0 mJ3_checkIndex_8e157 Q X 0 [.int (iI a), .int (iI b), w] [] _
  refine go_iload_n (y := mJ3_checkIndex_8e157) (pc := 0) dJ3_checkIndex_8e157_0 rfl rfl ?_
  refine go_if_lt (y := mJ3_checkIndex_8e157) (pc := 1) (tgt := 9) dJ3_checkIndex_8e157_1 (by decide) (by omega) (fun h => absurd h (by omega)) (fun _ => ?_)
  refine go_iload_n (y := mJ3_checkIndex_8e157) (pc := 4) dJ3_checkIndex_8e157_4 rfl rfl ?_
  refine go_iload_n (y := mJ3_checkIndex_8e157) (pc := 5) dJ3_checkIndex_8e157_5 rfl rfl ?_
  refine go_icmp_lt (y := mJ3_checkIndex_8e157) (pc := 6) (tgt := 16) dJ3_checkIndex_8e157_6 (by decide) (by omega) (by omega) (fun _ => ?_) (fun h => absurd h (by omega))
  refine go_iload_n (y := mJ3_checkIndex_8e157) (pc := 16) dJ3_checkIndex_8e157_16 rfl rfl ?_
  exact go_ireturn (y := mJ3_checkIndex_8e157) (pc := 17) dJ3_checkIndex_8e157_17 rfl K
theorem k_check2 {a b : Int} (ha : 0 ≤ a ∧ a < b) (hb : b < 1000) (K : Q none μ) : mt z 1 0 0 mJ0_checkIndex_df160 [.int (iI a), .int (iI b)] Q X μ := by
  show go z 1 0 0 mJ0_checkIndex_df160 Q X 0 [.int (iI a), .int (iI b)] [] _
  refine go_iload_n (y := mJ0_checkIndex_df160) (pc := 0) dJ0_checkIndex_df160_0 rfl rfl ?_
  refine go_iload_n (y := mJ0_checkIndex_df160) (pc := 1) dJ0_checkIndex_df160_1 rfl rfl ?_
  refine go_kfm (y := mJ0_checkIndex_df160) (pc := 2) dJ0_checkIndex_df160_2 rfl (fun w hw => ?_)
  refine go_callS3 (y := mJ0_checkIndex_df160) (pc := 5) (y' := mJ3_checkIndex_8e157) (z' := z) (d' := 0) (kc' := 0) (ks' := 0) (kc2 := 0) (ks2 := 0) dJ0_checkIndex_df160_5 ml_J0_1059 ok_J3_checkIndex_8e157 ⟨rfl, rfl, hw⟩ ⟨by decide, Nat.le_refl _, by decide, by decide, by decide⟩ (Nat.le_of_ble_eq_true rfl) rfl (k_check3 ha hb ?_)
  refine go_pop (y := mJ0_checkIndex_df160) (pc := 8) dJ0_checkIndex_df160_8 rfl ?_
  exact go_return (y := mJ0_checkIndex_df160) (pc := 9) dJ0_checkIndex_df160_9 rfl K
theorem k_lcharAt {k : Nat} (hi : sc_l[i]? = some q) (hk : k < q.2.2.length) (K : Q (some (.int (iI (chz q.2.2 k)))) μ) : mt z 2 0 0 mJ1_charAt_3b067 [.ref (7200 + i), .int (iI (k : Nat))] Q X μ := by
  have hb := sc_bd hi
  have hc := chz_b hi hk
  show go z 2 0 0 mJ1_charAt_3b067 Q X 0 [.ref (7200 + i), .int (iI (k : Nat))] [] _
  refine go_iload_n (y := mJ1_charAt_3b067) (pc := 0) dJ1_charAt_3b067_0 rfl rfl ?_
  refine go_aload_n (y := mJ1_charAt_3b067) (pc := 1) dJ1_charAt_3b067_1 rfl rfl ?_
  refine go_klen (y := mJ1_charAt_3b067) (pc := 2) dJ1_charAt_3b067_2 hi ?_
  refine go_callS2 (y := mJ1_charAt_3b067) (pc := 3) (y' := mJ0_checkIndex_df160) (z' := z) (d' := 1) (kc' := 0) (ks' := 0) (kc2 := 0) (ks2 := 0) dJ1_charAt_3b067_3 ml_J1_9 ok_J0_checkIndex_df160 ⟨rfl, rfl⟩ ⟨by decide, Nat.le_refl _, by decide, by decide, by decide⟩ (Nat.le_of_ble_eq_true rfl) rfl (k_check2 (by omega) (by omega) ?_)
  refine go_aload_n (y := mJ1_charAt_3b067) (pc := 6) dJ1_charAt_3b067_6 rfl rfl ?_
  refine go_iload_n (y := mJ1_charAt_3b067) (pc := 7) dJ1_charAt_3b067_7 rfl rfl ?_
  refine go_kbal (y := mJ1_charAt_3b067) (pc := 8) dJ1_charAt_3b067_8 hi hk ?_
  refine go_sipush (y := mJ1_charAt_3b067) (pc := 9) dJ1_charAt_3b067_9 (by decide) ?_
  refine go_iand (y := mJ1_charAt_3b067) (pc := 12) (v := chz q.2.2 k) dJ1_charAt_3b067_12 ?_ ?_
  · rw [and255 (by omega)]
    unfold ub
    rw [if_neg (by omega)]
  refine go_i2c (y := mJ1_charAt_3b067) (pc := 13) (v := chz q.2.2 k) dJ1_charAt_3b067_13 (i2c_s (by omega)) ?_
  refine go_nreturn (y := mJ1_charAt_3b067) (pc := 14) dJ1_charAt_3b067_14 rfl ?_ K
  have e : iI (chz q.2.2 k) = nI (chz q.2.2 k).toNat := by
    rw [show nI (chz q.2.2 k).toNat = iI ((chz q.2.2 k).toNat : Int) from iI_of (by omega)]
    congr 1
  rw [e]
  exact (pk_charN (by omega)).1
theorem k_charAt {k : Nat} (hi : sc_l[i]? = some q) (hk : k < q.2.2.length) (K : Q (some (.int (iI (chz q.2.2 k)))) μ) : mt z 3 0 0 mJ0_charAt_5068e [.ref (7000 + i), .int (iI (k : Nat))] Q X μ := by
  have hc := chz_b hi hk
  show go z 3 0 0 mJ0_charAt_5068e Q X 0 [.ref (7000 + i), .int (iI (k : Nat))] [] _
  refine go_aload_n (y := mJ0_charAt_5068e) (pc := 0) dJ0_charAt_5068e_0 rfl rfl ?_
  refine go_callK (y := mJ0_charAt_5068e) (pc := 1) (y' := mJ0_isLatin1_aae02) (as := []) (z' := z) (d' := 0) (kc' := 0) (ks' := 0) (kc2 := 0) (ks2 := 0) dJ0_charAt_5068e_1 rfl ml_J0_492 ok_J0_isLatin1_aae02 hi rfl rfl (by decide) (by intro v hv; cases hv) (Nat.le_of_ble_eq_true rfl) (Nat.le_refl _) (by decide) (by decide) (by decide) rfl (k_isLatin1 hi ?_)
  refine go_if_eq (y := mJ0_charAt_5068e) (pc := 4) (tgt := 16) dJ0_charAt_5068e_4 (by decide) ⟨by decide, by decide⟩ (fun h => absurd h (by decide)) (fun _ => ?_)
  refine go_aload_n (y := mJ0_charAt_5068e) (pc := 7) dJ0_charAt_5068e_7 rfl rfl ?_
  refine go_kval (y := mJ0_charAt_5068e) (pc := 8) dJ0_charAt_5068e_8 rfl hi ?_
  refine go_iload_n (y := mJ0_charAt_5068e) (pc := 11) dJ0_charAt_5068e_11 rfl rfl ?_
  refine go_callS2 (y := mJ0_charAt_5068e) (pc := 12) (y' := mJ1_charAt_3b067) (z' := z) (d' := 2) (kc' := 0) (ks' := 0) (kc2 := 0) (ks2 := 0) dJ0_charAt_5068e_12 ml_J0_495 ok_J1_charAt_3b067 ⟨rfl, rfl⟩ ⟨by decide, Nat.le_refl _, by decide, by decide, by decide⟩ (Nat.le_of_ble_eq_true rfl) rfl (k_lcharAt hi hk ?_)
  refine go_nreturn (y := mJ0_charAt_5068e) (pc := 15) dJ0_charAt_5068e_15 rfl ?_ K
  have e : iI (chz q.2.2 k) = nI (chz q.2.2 k).toNat := by
    rw [show nI (chz q.2.2 k).toNat = iI ((chz q.2.2 k).toNat : Int) from iI_of (by omega)]
    congr 1
  rw [e]
  exact (pk_charN (by omega)).1
end JStr2
