/-! THE LAW'S WRAPPERS -/
theorem mt_mono {z d kc ks : Nat} {y : MI} {as : List Value} {Q Q' : Option Value → Mem → Prop} {X X' : String → Mem → Prop} {μ : Mem} (h : mt z d kc ks y as Q X μ) (hq : ∀ r μ, Q r μ → Q' r μ) (hx : ∀ E μ, X E μ → X' E μ) : mt z d kc ks y as Q' X' μ := by
  intro p l e R s m args below meth c D cy X0 mc ms nn ad hc H locs cells slots lsA dv hw hS hl h1 h2
  refine W_mono (h p l e R s m args below meth c D cy X0 mc ms nn ad hc H locs cells slots lsA dv hw hS hl h1 h2) (fun t ht => ?_)
  obtain ⟨o, t1, t2, t3⟩ := ht
  refine ⟨o, t1, t2, ?_⟩
  rcases t3 with ⟨⟨⟨r, μ1, dv1, q1, q2, q3⟩, q4⟩, q5⟩ | ⟨q, w1, E9, ce, L9, ⟨⟨μ1, dv1, g1, g2⟩, g3⟩, w3⟩
  · exact Or.inl ⟨⟨⟨r, μ1, dv1, q1, hq _ _ q2, q3⟩, q4⟩, q5⟩
  · exact Or.inr ⟨q, w1, E9, ce, L9, ⟨⟨μ1, dv1, hx _ _ g1, g2⟩, g3⟩, w3⟩
theorem lcl_13 : Cond.classLink RL 13 "java/lang/IllegalStateException" ∈ aw := tb_in 1352 (by decide +kernel) (by decide +kernel)
theorem lca_13 : Cond.castable "java/lang/IllegalStateException" "java/lang/IllegalStateException" ∈ fw := fw_in 1362 (by decide +kernel) (by decide +kernel)
theorem lcl_19 : Cond.classLink RL 19 "java/lang/IllegalArgumentException" ∈ aw := tb_in 1383 (by decide +kernel) (by decide +kernel)
theorem lca_19 : Cond.castable "java/lang/IllegalArgumentException" "java/lang/IllegalArgumentException" ∈ fw := fw_in 1154 (by decide +kernel) (by decide +kernel)
theorem lcl_24 : Cond.classLink RL 24 "java/lang/IndexOutOfBoundsException" ∈ aw := tb_in 1394 (by decide +kernel) (by decide +kernel)
theorem lca_24 : Cond.castable "java/lang/IndexOutOfBoundsException" "java/lang/IndexOutOfBoundsException" ∈ fw := fw_in 1406 (by decide +kernel) (by decide +kernel)
theorem lcl_79 : Cond.classLink RL 79 "java/util/NoSuchElementException" ∈ aw := tb_in 1555 (by decide +kernel) (by decide +kernel)
theorem lca_79 : Cond.castable "java/util/NoSuchElementException" "java/util/NoSuchElementException" ∈ fw := fw_in 1562 (by decide +kernel) (by decide +kernel)
section Wrap
variable {d kc ks : Nat} {Q : Option Value → Mem → Prop} {X : String → Mem → Prop} {μ : Mem}
def mL_append : MI := (yL_append, cL_append, 8, some .int, [(0, 16, 19, 13)], none)
theorem ok_L_append : mokH mL_append 7 := ⟨tb_in 1351 (by decide +kernel) (by decide +kernel), tb_in 0 (by decide +kernel) (by decide +kernel), by decide +kernel, ⟨by decide +kernel, by decide +kernel, by decide +kernel⟩, by decide, rfl, tb_in 1350 (by decide +kernel) (by decide +kernel)⟩
theorem W_append {a1 a2 a3 a4 a5 : Int} (K : mt 276 d kc ks mX10_append [.ref 0, .int (iI a1), .int (iI a2), .int (iI a3), .int (iI a4), .int (iI a5)] (fun r μ' => ∃ v : Int, r = some (.int (iI v)) ∧ rng v ∧ Q (some (.int (iI 0))) (wr μ' 289 0 v)) (fun E μ' => (E = "java/lang/IllegalStateException" ∧ Q (some (.int (iI 1))) μ')) μ) : mt 291 (d + 1) kc ks mL_append [.ref 0, .int (iI a1), .int (iI a2), .int (iI a3), .int (iI a4), .int (iI a5), .ref 289] Q X μ := by
  show go 291 (d + 1) kc ks mL_append Q X 0 [.ref 0, .int (iI a1), .int (iI a2), .int (iI a3), .int (iI a4), .int (iI a5), .ref 289, .null] [] _
  refine go_aload (y := mL_append) (pc := 0) dL_append_0 rfl ?_
  refine go_iconst (y := mL_append) (pc := 2) dL_append_2 ?_
  refine go_aload_n (y := mL_append) (pc := 3) dL_append_3 rfl rfl ?_
  refine go_iload_n (y := mL_append) (pc := 4) dL_append_4 rfl rfl ?_
  refine go_iload_n (y := mL_append) (pc := 5) dL_append_5 rfl rfl ?_
  refine go_iload_n (y := mL_append) (pc := 6) dL_append_6 rfl rfl ?_
  refine go_iload (y := mL_append) (pc := 7) dL_append_7 rfl ?_
  refine go_iload (y := mL_append) (pc := 9) dL_append_9 rfl ?_
  refine go_callVH (y := mL_append) (pc := 11) (y' := mX10_append) (as := [.int (iI a1), .int (iI a2), .int (iI a3), .int (iI a4), .int (iI a5)]) (z' := 276) (d' := d) (kc' := kc) (ks' := ks) (kc2 := 0) (ks2 := 0) dL_append_11 rfl ml_L_7 ok_X10_append (show shp 0 = _ from rfl) ⟨_, _, rfl⟩ (by decide) rfl (Nat.le_of_ble_eq_true rfl) (by intro v hv; simp only [List.mem_cons, List.not_mem_nil, or_false] at hv; rcases hv with rfl | rfl | rfl | rfl | rfl <;> rfl) (Nat.le_of_ble_eq_true rfl) (by decide) (Nat.le_refl _) (Nat.le_refl _) (Nat.le_refl _) (mt_mono K (fun r μ' h => ?_) (fun E μ' h => ?_))
  · obtain ⟨v, rfl, hv, hQ⟩ := h
    refine go_i2l (y := mL_append) (pc := 14) dL_append_14 ?_
    refine go_lastore (y := mL_append) (pc := 15) dL_append_15 (by decide) hv ?_
    refine go_goto (y := mL_append) (pc := 16) (tgt := 23) dL_append_16 (by decide) ?_
    refine go_iconst (y := mL_append) (pc := 23) dL_append_23 ?_
    exact go_ireturn (y := mL_append) (pc := 24) dL_append_24 rfl hQ
  · obtain ⟨rfl, hQ⟩ := h
    refine ⟨19, 7, ⟨[], ⟨0, 16, 19, 13⟩, [], rfl, (fun z hz => by cases hz), by decide, by decide, lcl_13, lca_13, rfl⟩, by decide, Or.inr ⟨dL_append_19, ?_⟩⟩
    refine go_iconst (y := mL_append) (pc := 21) dL_append_21 ?_
    exact go_ireturn (y := mL_append) (pc := 22) dL_append_22 rfl hQ
def mL_truncate : MI := (yL_truncate, cL_truncate, 4, some .int, [(0, 9, 12, 19)], none)
theorem ok_L_truncate : mokH mL_truncate 3 := ⟨tb_in 1382 (by decide +kernel) (by decide +kernel), tb_in 0 (by decide +kernel) (by decide +kernel), by decide +kernel, ⟨by decide +kernel, by decide +kernel, by decide +kernel⟩, by decide, rfl, tb_in 1381 (by decide +kernel) (by decide +kernel)⟩
theorem W_truncate {a1 : Int} (K : mt 276 d kc ks mX10_truncate [.ref 0, .int (iI a1)] (fun r μ' => ∃ v : Int, r = some (.int (iI v)) ∧ rng v ∧ Q (some (.int (iI 0))) (wr μ' 289 0 v)) (fun E μ' => (E = "java/lang/IllegalArgumentException" ∧ Q (some (.int (iI 1))) μ')) μ) : mt 291 (d + 1) kc ks mL_truncate [.ref 0, .int (iI a1), .ref 289] Q X μ := by
  show go 291 (d + 1) kc ks mL_truncate Q X 0 [.ref 0, .int (iI a1), .ref 289, .null] [] _
  refine go_aload_n (y := mL_truncate) (pc := 0) dL_truncate_0 rfl rfl ?_
  refine go_iconst (y := mL_truncate) (pc := 1) dL_truncate_1 ?_
  refine go_aload_n (y := mL_truncate) (pc := 2) dL_truncate_2 rfl rfl ?_
  refine go_iload_n (y := mL_truncate) (pc := 3) dL_truncate_3 rfl rfl ?_
  refine go_callVH (y := mL_truncate) (pc := 4) (y' := mX10_truncate) (as := [.int (iI a1)]) (z' := 276) (d' := d) (kc' := kc) (ks' := ks) (kc2 := 0) (ks2 := 0) dL_truncate_4 rfl ml_L_15 ok_X10_truncate (show shp 0 = _ from rfl) ⟨_, _, rfl⟩ (by decide) rfl (Nat.le_of_ble_eq_true rfl) (by intro v hv; simp only [List.mem_cons, List.not_mem_nil, or_false] at hv; rw [hv]; rfl) (Nat.le_of_ble_eq_true rfl) (by decide) (Nat.le_refl _) (Nat.le_refl _) (Nat.le_refl _) (mt_mono K (fun r μ' h => ?_) (fun E μ' h => ?_))
  · obtain ⟨v, rfl, hv, hQ⟩ := h
    refine go_i2l (y := mL_truncate) (pc := 7) dL_truncate_7 ?_
    refine go_lastore (y := mL_truncate) (pc := 8) dL_truncate_8 (by decide) hv ?_
    refine go_goto (y := mL_truncate) (pc := 9) (tgt := 15) dL_truncate_9 (by decide) ?_
    refine go_iconst (y := mL_truncate) (pc := 15) dL_truncate_15 ?_
    exact go_ireturn (y := mL_truncate) (pc := 16) dL_truncate_16 rfl hQ
  · obtain ⟨rfl, hQ⟩ := h
    refine ⟨12, 3, ⟨[], ⟨0, 9, 12, 19⟩, [], rfl, (fun z hz => by cases hz), by decide, by decide, lcl_19, lca_19, rfl⟩, by decide, Or.inl ⟨3, rfl, dL_truncate_12, ?_⟩⟩
    refine go_iconst (y := mL_truncate) (pc := 13) dL_truncate_13 ?_
    exact go_ireturn (y := mL_truncate) (pc := 14) dL_truncate_14 rfl hQ
def mL_weight : MI := (yL_weight, cL_weight, 4, some .int, [(0, 9, 12, 24)], none)
theorem ok_L_weight : mokH mL_weight 3 := ⟨tb_in 1393 (by decide +kernel) (by decide +kernel), tb_in 0 (by decide +kernel) (by decide +kernel), by decide +kernel, ⟨by decide +kernel, by decide +kernel, by decide +kernel⟩, by decide, rfl, tb_in 1392 (by decide +kernel) (by decide +kernel)⟩
theorem W_weight {a1 : Int} (K : mt 276 d kc ks mX10_weight [.ref 0, .int (iI a1)] (fun r μ' => ∃ v : Int, r = some (.int (iI v)) ∧ rng v ∧ Q (some (.int (iI 0))) (wr μ' 289 0 v)) (fun E μ' => (E = "java/lang/IndexOutOfBoundsException" ∧ Q (some (.int (iI 1))) μ')) μ) : mt 291 (d + 1) kc ks mL_weight [.ref 0, .int (iI a1), .ref 289] Q X μ := by
  show go 291 (d + 1) kc ks mL_weight Q X 0 [.ref 0, .int (iI a1), .ref 289, .null] [] _
  refine go_aload_n (y := mL_weight) (pc := 0) dL_weight_0 rfl rfl ?_
  refine go_iconst (y := mL_weight) (pc := 1) dL_weight_1 ?_
  refine go_aload_n (y := mL_weight) (pc := 2) dL_weight_2 rfl rfl ?_
  refine go_iload_n (y := mL_weight) (pc := 3) dL_weight_3 rfl rfl ?_
  refine go_callVH (y := mL_weight) (pc := 4) (y' := mX10_weight) (as := [.int (iI a1)]) (z' := 276) (d' := d) (kc' := kc) (ks' := ks) (kc2 := 0) (ks2 := 0) dL_weight_4 rfl ml_L_21 ok_X10_weight (show shp 0 = _ from rfl) ⟨_, _, rfl⟩ (by decide) rfl (Nat.le_of_ble_eq_true rfl) (by intro v hv; simp only [List.mem_cons, List.not_mem_nil, or_false] at hv; rw [hv]; rfl) (Nat.le_of_ble_eq_true rfl) (by decide) (Nat.le_refl _) (Nat.le_refl _) (Nat.le_refl _) (mt_mono K (fun r μ' h => ?_) (fun E μ' h => ?_))
  · obtain ⟨v, rfl, hv, hQ⟩ := h
    refine go_i2l (y := mL_weight) (pc := 7) dL_weight_7 ?_
    refine go_lastore (y := mL_weight) (pc := 8) dL_weight_8 (by decide) hv ?_
    refine go_goto (y := mL_weight) (pc := 9) (tgt := 15) dL_weight_9 (by decide) ?_
    refine go_iconst (y := mL_weight) (pc := 15) dL_weight_15 ?_
    exact go_ireturn (y := mL_weight) (pc := 16) dL_weight_16 rfl hQ
  · obtain ⟨rfl, hQ⟩ := h
    refine ⟨12, 3, ⟨[], ⟨0, 9, 12, 24⟩, [], rfl, (fun z hz => by cases hz), by decide, by decide, lcl_24, lca_24, rfl⟩, by decide, Or.inl ⟨3, rfl, dL_weight_12, ?_⟩⟩
    refine go_iconst (y := mL_weight) (pc := 13) dL_weight_13 ?_
    exact go_ireturn (y := mL_weight) (pc := 14) dL_weight_14 rfl hQ
def mL_purse : MI := (yL_purse, cL_purse, 4, some .int, [(0, 9, 12, 24)], none)
theorem ok_L_purse : mokH mL_purse 3 := ⟨tb_in 1419 (by decide +kernel) (by decide +kernel), tb_in 0 (by decide +kernel) (by decide +kernel), by decide +kernel, ⟨by decide +kernel, by decide +kernel, by decide +kernel⟩, by decide, rfl, tb_in 1418 (by decide +kernel) (by decide +kernel)⟩
theorem W_purse {a1 : Int} (K : mt 276 d kc ks mX10_purse [.ref 0, .int (iI a1)] (fun r μ' => ∃ v : Int, r = some (.int (iI v)) ∧ rng v ∧ Q (some (.int (iI 0))) (wr μ' 289 0 v)) (fun E μ' => (E = "java/lang/IndexOutOfBoundsException" ∧ Q (some (.int (iI 1))) μ')) μ) : mt 291 (d + 1) kc ks mL_purse [.ref 0, .int (iI a1), .ref 289] Q X μ := by
  show go 291 (d + 1) kc ks mL_purse Q X 0 [.ref 0, .int (iI a1), .ref 289, .null] [] _
  refine go_aload_n (y := mL_purse) (pc := 0) dL_purse_0 rfl rfl ?_
  refine go_iconst (y := mL_purse) (pc := 1) dL_purse_1 ?_
  refine go_aload_n (y := mL_purse) (pc := 2) dL_purse_2 rfl rfl ?_
  refine go_iload_n (y := mL_purse) (pc := 3) dL_purse_3 rfl rfl ?_
  refine go_callVH (y := mL_purse) (pc := 4) (y' := mX10_purse) (as := [.int (iI a1)]) (z' := 276) (d' := d) (kc' := kc) (ks' := ks) (kc2 := 0) (ks2 := 0) dL_purse_4 rfl ml_L_26 ok_X10_purse (show shp 0 = _ from rfl) ⟨_, _, rfl⟩ (by decide) rfl (Nat.le_of_ble_eq_true rfl) (by intro v hv; simp only [List.mem_cons, List.not_mem_nil, or_false] at hv; rw [hv]; rfl) (Nat.le_of_ble_eq_true rfl) (by decide) (Nat.le_refl _) (Nat.le_refl _) (Nat.le_refl _) (mt_mono K (fun r μ' h => ?_) (fun E μ' h => ?_))
  · obtain ⟨v, rfl, hv, hQ⟩ := h
    refine go_i2l (y := mL_purse) (pc := 7) dL_purse_7 ?_
    refine go_lastore (y := mL_purse) (pc := 8) dL_purse_8 (by decide) hv ?_
    refine go_goto (y := mL_purse) (pc := 9) (tgt := 15) dL_purse_9 (by decide) ?_
    refine go_iconst (y := mL_purse) (pc := 15) dL_purse_15 ?_
    exact go_ireturn (y := mL_purse) (pc := 16) dL_purse_16 rfl hQ
  · obtain ⟨rfl, hQ⟩ := h
    refine ⟨12, 3, ⟨[], ⟨0, 9, 12, 24⟩, [], rfl, (fun z hz => by cases hz), by decide, by decide, lcl_24, lca_24, rfl⟩, by decide, Or.inl ⟨3, rfl, dL_purse_12, ?_⟩⟩
    refine go_iconst (y := mL_purse) (pc := 13) dL_purse_13 ?_
    exact go_ireturn (y := mL_purse) (pc := 14) dL_purse_14 rfl hQ
def mL_sharpness : MI := (yL_sharpness, cL_sharpness, 4, some .int, [(0, 9, 12, 24)], none)
theorem ok_L_sharpness : mokH mL_sharpness 3 := ⟨tb_in 1426 (by decide +kernel) (by decide +kernel), tb_in 0 (by decide +kernel) (by decide +kernel), by decide +kernel, ⟨by decide +kernel, by decide +kernel, by decide +kernel⟩, by decide, rfl, tb_in 1425 (by decide +kernel) (by decide +kernel)⟩
theorem W_sharpness {a1 : Int} (K : mt 276 d kc ks mX10_sharpness [.ref 0, .int (iI a1)] (fun r μ' => ∃ v : Int, r = some (.int (iI v)) ∧ rng v ∧ Q (some (.int (iI 0))) (wr μ' 289 0 v)) (fun E μ' => (E = "java/lang/IndexOutOfBoundsException" ∧ Q (some (.int (iI 1))) μ')) μ) : mt 291 (d + 1) kc ks mL_sharpness [.ref 0, .int (iI a1), .ref 289] Q X μ := by
  show go 291 (d + 1) kc ks mL_sharpness Q X 0 [.ref 0, .int (iI a1), .ref 289, .null] [] _
  refine go_aload_n (y := mL_sharpness) (pc := 0) dL_sharpness_0 rfl rfl ?_
  refine go_iconst (y := mL_sharpness) (pc := 1) dL_sharpness_1 ?_
  refine go_aload_n (y := mL_sharpness) (pc := 2) dL_sharpness_2 rfl rfl ?_
  refine go_iload_n (y := mL_sharpness) (pc := 3) dL_sharpness_3 rfl rfl ?_
  refine go_callVH (y := mL_sharpness) (pc := 4) (y' := mX10_sharpness) (as := [.int (iI a1)]) (z' := 276) (d' := d) (kc' := kc) (ks' := ks) (kc2 := 0) (ks2 := 0) dL_sharpness_4 rfl ml_L_29 ok_X10_sharpness (show shp 0 = _ from rfl) ⟨_, _, rfl⟩ (by decide) rfl (Nat.le_of_ble_eq_true rfl) (by intro v hv; simp only [List.mem_cons, List.not_mem_nil, or_false] at hv; rw [hv]; rfl) (Nat.le_of_ble_eq_true rfl) (by decide) (Nat.le_refl _) (Nat.le_refl _) (Nat.le_refl _) (mt_mono K (fun r μ' h => ?_) (fun E μ' h => ?_))
  · obtain ⟨v, rfl, hv, hQ⟩ := h
    refine go_i2l (y := mL_sharpness) (pc := 7) dL_sharpness_7 ?_
    refine go_lastore (y := mL_sharpness) (pc := 8) dL_sharpness_8 (by decide) hv ?_
    refine go_goto (y := mL_sharpness) (pc := 9) (tgt := 15) dL_sharpness_9 (by decide) ?_
    refine go_iconst (y := mL_sharpness) (pc := 15) dL_sharpness_15 ?_
    exact go_ireturn (y := mL_sharpness) (pc := 16) dL_sharpness_16 rfl hQ
  · obtain ⟨rfl, hQ⟩ := h
    refine ⟨12, 3, ⟨[], ⟨0, 9, 12, 24⟩, [], rfl, (fun z hz => by cases hz), by decide, by decide, lcl_24, lca_24, rfl⟩, by decide, Or.inl ⟨3, rfl, dL_sharpness_12, ?_⟩⟩
    refine go_iconst (y := mL_sharpness) (pc := 13) dL_sharpness_13 ?_
    exact go_ireturn (y := mL_sharpness) (pc := 14) dL_sharpness_14 rfl hQ
def mL_speechesOf : MI := (yL_speechesOf, cL_speechesOf, 4, some .int, [(0, 9, 12, 24)], none)
theorem ok_L_speechesOf : mokH mL_speechesOf 3 := ⟨tb_in 1433 (by decide +kernel) (by decide +kernel), tb_in 0 (by decide +kernel) (by decide +kernel), by decide +kernel, ⟨by decide +kernel, by decide +kernel, by decide +kernel⟩, by decide, rfl, tb_in 1432 (by decide +kernel) (by decide +kernel)⟩
theorem W_speechesOf {a1 : Int} (K : mt 276 d kc ks mX10_speechesOf [.ref 0, .int (iI a1)] (fun r μ' => ∃ v : Int, r = some (.int (iI v)) ∧ rng v ∧ Q (some (.int (iI 0))) (wr μ' 289 0 v)) (fun E μ' => (E = "java/lang/IndexOutOfBoundsException" ∧ Q (some (.int (iI 1))) μ')) μ) : mt 291 (d + 1) kc ks mL_speechesOf [.ref 0, .int (iI a1), .ref 289] Q X μ := by
  show go 291 (d + 1) kc ks mL_speechesOf Q X 0 [.ref 0, .int (iI a1), .ref 289, .null] [] _
  refine go_aload_n (y := mL_speechesOf) (pc := 0) dL_speechesOf_0 rfl rfl ?_
  refine go_iconst (y := mL_speechesOf) (pc := 1) dL_speechesOf_1 ?_
  refine go_aload_n (y := mL_speechesOf) (pc := 2) dL_speechesOf_2 rfl rfl ?_
  refine go_iload_n (y := mL_speechesOf) (pc := 3) dL_speechesOf_3 rfl rfl ?_
  refine go_callVH (y := mL_speechesOf) (pc := 4) (y' := mX10_speechesOf) (as := [.int (iI a1)]) (z' := 276) (d' := d) (kc' := kc) (ks' := ks) (kc2 := 0) (ks2 := 0) dL_speechesOf_4 rfl ml_L_32 ok_X10_speechesOf (show shp 0 = _ from rfl) ⟨_, _, rfl⟩ (by decide) rfl (Nat.le_of_ble_eq_true rfl) (by intro v hv; simp only [List.mem_cons, List.not_mem_nil, or_false] at hv; rw [hv]; rfl) (Nat.le_of_ble_eq_true rfl) (by decide) (Nat.le_refl _) (Nat.le_refl _) (Nat.le_refl _) (mt_mono K (fun r μ' h => ?_) (fun E μ' h => ?_))
  · obtain ⟨v, rfl, hv, hQ⟩ := h
    refine go_i2l (y := mL_speechesOf) (pc := 7) dL_speechesOf_7 ?_
    refine go_lastore (y := mL_speechesOf) (pc := 8) dL_speechesOf_8 (by decide) hv ?_
    refine go_goto (y := mL_speechesOf) (pc := 9) (tgt := 15) dL_speechesOf_9 (by decide) ?_
    refine go_iconst (y := mL_speechesOf) (pc := 15) dL_speechesOf_15 ?_
    exact go_ireturn (y := mL_speechesOf) (pc := 16) dL_speechesOf_16 rfl hQ
  · obtain ⟨rfl, hQ⟩ := h
    refine ⟨12, 3, ⟨[], ⟨0, 9, 12, 24⟩, [], rfl, (fun z hz => by cases hz), by decide, by decide, lcl_24, lca_24, rfl⟩, by decide, Or.inl ⟨3, rfl, dL_speechesOf_12, ?_⟩⟩
    refine go_iconst (y := mL_speechesOf) (pc := 13) dL_speechesOf_13 ?_
    exact go_ireturn (y := mL_speechesOf) (pc := 14) dL_speechesOf_14 rfl hQ
def mL_leaning : MI := (yL_leaning, cL_leaning, 5, some .int, [(0, 10, 13, 24)], none)
theorem ok_L_leaning : mokH mL_leaning 4 := ⟨tb_in 1440 (by decide +kernel) (by decide +kernel), tb_in 0 (by decide +kernel) (by decide +kernel), by decide +kernel, ⟨by decide +kernel, by decide +kernel, by decide +kernel⟩, by decide, rfl, tb_in 1439 (by decide +kernel) (by decide +kernel)⟩
theorem W_leaning {a1 a2 : Int} (K : mt 276 d kc ks mX10_leaning [.ref 0, .int (iI a1), .int (iI a2)] (fun r μ' => ∃ v : Int, r = some (.int (iI v)) ∧ rng v ∧ Q (some (.int (iI 0))) (wr μ' 289 0 v)) (fun E μ' => (E = "java/lang/IndexOutOfBoundsException" ∧ Q (some (.int (iI 1))) μ')) μ) : mt 291 (d + 1) kc ks mL_leaning [.ref 0, .int (iI a1), .int (iI a2), .ref 289] Q X μ := by
  show go 291 (d + 1) kc ks mL_leaning Q X 0 [.ref 0, .int (iI a1), .int (iI a2), .ref 289, .null] [] _
  refine go_aload_n (y := mL_leaning) (pc := 0) dL_leaning_0 rfl rfl ?_
  refine go_iconst (y := mL_leaning) (pc := 1) dL_leaning_1 ?_
  refine go_aload_n (y := mL_leaning) (pc := 2) dL_leaning_2 rfl rfl ?_
  refine go_iload_n (y := mL_leaning) (pc := 3) dL_leaning_3 rfl rfl ?_
  refine go_iload_n (y := mL_leaning) (pc := 4) dL_leaning_4 rfl rfl ?_
  refine go_callVH (y := mL_leaning) (pc := 5) (y' := mX10_leaning) (as := [.int (iI a1), .int (iI a2)]) (z' := 276) (d' := d) (kc' := kc) (ks' := ks) (kc2 := 0) (ks2 := 0) dL_leaning_5 rfl ml_L_35 ok_X10_leaning (show shp 0 = _ from rfl) ⟨_, _, rfl⟩ (by decide) rfl (Nat.le_of_ble_eq_true rfl) (by intro v hv; simp only [List.mem_cons, List.not_mem_nil, or_false] at hv; rcases hv with rfl | rfl <;> rfl) (Nat.le_of_ble_eq_true rfl) (by decide) (Nat.le_refl _) (Nat.le_refl _) (Nat.le_refl _) (mt_mono K (fun r μ' h => ?_) (fun E μ' h => ?_))
  · obtain ⟨v, rfl, hv, hQ⟩ := h
    refine go_i2l (y := mL_leaning) (pc := 8) dL_leaning_8 ?_
    refine go_lastore (y := mL_leaning) (pc := 9) dL_leaning_9 (by decide) hv ?_
    refine go_goto (y := mL_leaning) (pc := 10) (tgt := 17) dL_leaning_10 (by decide) ?_
    refine go_iconst (y := mL_leaning) (pc := 17) dL_leaning_17 ?_
    exact go_ireturn (y := mL_leaning) (pc := 18) dL_leaning_18 rfl hQ
  · obtain ⟨rfl, hQ⟩ := h
    refine ⟨13, 4, ⟨[], ⟨0, 10, 13, 24⟩, [], rfl, (fun z hz => by cases hz), by decide, by decide, lcl_24, lca_24, rfl⟩, by decide, Or.inr ⟨dL_leaning_13, ?_⟩⟩
    refine go_iconst (y := mL_leaning) (pc := 15) dL_leaning_15 ?_
    exact go_ireturn (y := mL_leaning) (pc := 16) dL_leaning_16 rfl hQ
def mL_chairOf : MI := (yL_chairOf, cL_chairOf, 4, some .int, [(0, 9, 12, 24)], none)
theorem ok_L_chairOf : mokH mL_chairOf 3 := ⟨tb_in 1454 (by decide +kernel) (by decide +kernel), tb_in 0 (by decide +kernel) (by decide +kernel), by decide +kernel, ⟨by decide +kernel, by decide +kernel, by decide +kernel⟩, by decide, rfl, tb_in 1453 (by decide +kernel) (by decide +kernel)⟩
theorem W_chairOf {a1 : Int} (K : mt 276 d kc ks mX10_chairOf [.ref 0, .int (iI a1)] (fun r μ' => ∃ v : Int, r = some (.int (iI v)) ∧ rng v ∧ Q (some (.int (iI 0))) (wr μ' 289 0 v)) (fun E μ' => (E = "java/lang/IndexOutOfBoundsException" ∧ Q (some (.int (iI 1))) μ')) μ) : mt 291 (d + 1) kc ks mL_chairOf [.ref 0, .int (iI a1), .ref 289] Q X μ := by
  show go 291 (d + 1) kc ks mL_chairOf Q X 0 [.ref 0, .int (iI a1), .ref 289, .null] [] _
  refine go_aload_n (y := mL_chairOf) (pc := 0) dL_chairOf_0 rfl rfl ?_
  refine go_iconst (y := mL_chairOf) (pc := 1) dL_chairOf_1 ?_
  refine go_aload_n (y := mL_chairOf) (pc := 2) dL_chairOf_2 rfl rfl ?_
  refine go_iload_n (y := mL_chairOf) (pc := 3) dL_chairOf_3 rfl rfl ?_
  refine go_callVH (y := mL_chairOf) (pc := 4) (y' := mX10_chairOf) (as := [.int (iI a1)]) (z' := 276) (d' := d) (kc' := kc) (ks' := ks) (kc2 := 0) (ks2 := 0) dL_chairOf_4 rfl ml_L_39 ok_X10_chairOf (show shp 0 = _ from rfl) ⟨_, _, rfl⟩ (by decide) rfl (Nat.le_of_ble_eq_true rfl) (by intro v hv; simp only [List.mem_cons, List.not_mem_nil, or_false] at hv; rw [hv]; rfl) (Nat.le_of_ble_eq_true rfl) (by decide) (Nat.le_refl _) (Nat.le_refl _) (Nat.le_refl _) (mt_mono K (fun r μ' h => ?_) (fun E μ' h => ?_))
  · obtain ⟨v, rfl, hv, hQ⟩ := h
    refine go_i2l (y := mL_chairOf) (pc := 7) dL_chairOf_7 ?_
    refine go_lastore (y := mL_chairOf) (pc := 8) dL_chairOf_8 (by decide) hv ?_
    refine go_goto (y := mL_chairOf) (pc := 9) (tgt := 15) dL_chairOf_9 (by decide) ?_
    refine go_iconst (y := mL_chairOf) (pc := 15) dL_chairOf_15 ?_
    exact go_ireturn (y := mL_chairOf) (pc := 16) dL_chairOf_16 rfl hQ
  · obtain ⟨rfl, hQ⟩ := h
    refine ⟨12, 3, ⟨[], ⟨0, 9, 12, 24⟩, [], rfl, (fun z hz => by cases hz), by decide, by decide, lcl_24, lca_24, rfl⟩, by decide, Or.inl ⟨3, rfl, dL_chairOf_12, ?_⟩⟩
    refine go_iconst (y := mL_chairOf) (pc := 13) dL_chairOf_13 ?_
    exact go_ireturn (y := mL_chairOf) (pc := 14) dL_chairOf_14 rfl hQ
def mL_placeInList : MI := (yL_placeInList, cL_placeInList, 4, some .int, [(0, 9, 12, 24)], none)
theorem ok_L_placeInList : mokH mL_placeInList 3 := ⟨tb_in 1462 (by decide +kernel) (by decide +kernel), tb_in 0 (by decide +kernel) (by decide +kernel), by decide +kernel, ⟨by decide +kernel, by decide +kernel, by decide +kernel⟩, by decide, rfl, tb_in 1461 (by decide +kernel) (by decide +kernel)⟩
theorem W_placeInList {a1 : Int} (K : mt 276 d kc ks mX10_placeInList [.ref 0, .int (iI a1)] (fun r μ' => ∃ v : Int, r = some (.int (iI v)) ∧ rng v ∧ Q (some (.int (iI 0))) (wr μ' 289 0 v)) (fun E μ' => (E = "java/lang/IndexOutOfBoundsException" ∧ Q (some (.int (iI 1))) μ')) μ) : mt 291 (d + 1) kc ks mL_placeInList [.ref 0, .int (iI a1), .ref 289] Q X μ := by
  show go 291 (d + 1) kc ks mL_placeInList Q X 0 [.ref 0, .int (iI a1), .ref 289, .null] [] _
  refine go_aload_n (y := mL_placeInList) (pc := 0) dL_placeInList_0 rfl rfl ?_
  refine go_iconst (y := mL_placeInList) (pc := 1) dL_placeInList_1 ?_
  refine go_aload_n (y := mL_placeInList) (pc := 2) dL_placeInList_2 rfl rfl ?_
  refine go_iload_n (y := mL_placeInList) (pc := 3) dL_placeInList_3 rfl rfl ?_
  refine go_callVH (y := mL_placeInList) (pc := 4) (y' := mX10_placeInList) (as := [.int (iI a1)]) (z' := 276) (d' := d) (kc' := kc) (ks' := ks) (kc2 := 0) (ks2 := 0) dL_placeInList_4 rfl ml_L_42 ok_X10_placeInList (show shp 0 = _ from rfl) ⟨_, _, rfl⟩ (by decide) rfl (Nat.le_of_ble_eq_true rfl) (by intro v hv; simp only [List.mem_cons, List.not_mem_nil, or_false] at hv; rw [hv]; rfl) (Nat.le_of_ble_eq_true rfl) (by decide) (Nat.le_refl _) (Nat.le_refl _) (Nat.le_refl _) (mt_mono K (fun r μ' h => ?_) (fun E μ' h => ?_))
  · obtain ⟨v, rfl, hv, hQ⟩ := h
    refine go_i2l (y := mL_placeInList) (pc := 7) dL_placeInList_7 ?_
    refine go_lastore (y := mL_placeInList) (pc := 8) dL_placeInList_8 (by decide) hv ?_
    refine go_goto (y := mL_placeInList) (pc := 9) (tgt := 15) dL_placeInList_9 (by decide) ?_
    refine go_iconst (y := mL_placeInList) (pc := 15) dL_placeInList_15 ?_
    exact go_ireturn (y := mL_placeInList) (pc := 16) dL_placeInList_16 rfl hQ
  · obtain ⟨rfl, hQ⟩ := h
    refine ⟨12, 3, ⟨[], ⟨0, 9, 12, 24⟩, [], rfl, (fun z hz => by cases hz), by decide, by decide, lcl_24, lca_24, rfl⟩, by decide, Or.inl ⟨3, rfl, dL_placeInList_12, ?_⟩⟩
    refine go_iconst (y := mL_placeInList) (pc := 13) dL_placeInList_13 ?_
    exact go_ireturn (y := mL_placeInList) (pc := 14) dL_placeInList_14 rfl hQ
def mL_proposer : MI := (yL_proposer, cL_proposer, 4, some .int, [(0, 9, 12, 24)], none)
theorem ok_L_proposer : mokH mL_proposer 3 := ⟨tb_in 1470 (by decide +kernel) (by decide +kernel), tb_in 0 (by decide +kernel) (by decide +kernel), by decide +kernel, ⟨by decide +kernel, by decide +kernel, by decide +kernel⟩, by decide, rfl, tb_in 1469 (by decide +kernel) (by decide +kernel)⟩
theorem W_proposer {a1 : Int} (K : mt 276 d kc ks mX10_proposer [.ref 0, .int (iI a1)] (fun r μ' => ∃ v : Int, r = some (.int (iI v)) ∧ rng v ∧ Q (some (.int (iI 0))) (wr μ' 289 0 v)) (fun E μ' => (E = "java/lang/IndexOutOfBoundsException" ∧ Q (some (.int (iI 1))) μ')) μ) : mt 291 (d + 1) kc ks mL_proposer [.ref 0, .int (iI a1), .ref 289] Q X μ := by
  show go 291 (d + 1) kc ks mL_proposer Q X 0 [.ref 0, .int (iI a1), .ref 289, .null] [] _
  refine go_aload_n (y := mL_proposer) (pc := 0) dL_proposer_0 rfl rfl ?_
  refine go_iconst (y := mL_proposer) (pc := 1) dL_proposer_1 ?_
  refine go_aload_n (y := mL_proposer) (pc := 2) dL_proposer_2 rfl rfl ?_
  refine go_iload_n (y := mL_proposer) (pc := 3) dL_proposer_3 rfl rfl ?_
  refine go_callVH (y := mL_proposer) (pc := 4) (y' := mX10_proposer) (as := [.int (iI a1)]) (z' := 276) (d' := d) (kc' := kc) (ks' := ks) (kc2 := 0) (ks2 := 0) dL_proposer_4 rfl ml_L_45 ok_X10_proposer (show shp 0 = _ from rfl) ⟨_, _, rfl⟩ (by decide) rfl (Nat.le_of_ble_eq_true rfl) (by intro v hv; simp only [List.mem_cons, List.not_mem_nil, or_false] at hv; rw [hv]; rfl) (Nat.le_of_ble_eq_true rfl) (by decide) (Nat.le_refl _) (Nat.le_refl _) (Nat.le_refl _) (mt_mono K (fun r μ' h => ?_) (fun E μ' h => ?_))
  · obtain ⟨v, rfl, hv, hQ⟩ := h
    refine go_i2l (y := mL_proposer) (pc := 7) dL_proposer_7 ?_
    refine go_lastore (y := mL_proposer) (pc := 8) dL_proposer_8 (by decide) hv ?_
    refine go_goto (y := mL_proposer) (pc := 9) (tgt := 15) dL_proposer_9 (by decide) ?_
    refine go_iconst (y := mL_proposer) (pc := 15) dL_proposer_15 ?_
    exact go_ireturn (y := mL_proposer) (pc := 16) dL_proposer_16 rfl hQ
  · obtain ⟨rfl, hQ⟩ := h
    refine ⟨12, 3, ⟨[], ⟨0, 9, 12, 24⟩, [], rfl, (fun z hz => by cases hz), by decide, by decide, lcl_24, lca_24, rfl⟩, by decide, Or.inl ⟨3, rfl, dL_proposer_12, ?_⟩⟩
    refine go_iconst (y := mL_proposer) (pc := 13) dL_proposer_13 ?_
    exact go_ireturn (y := mL_proposer) (pc := 14) dL_proposer_14 rfl hQ
def mL_motionState : MI := (yL_motionState, cL_motionState, 4, some .int, [(0, 9, 12, 24)], none)
theorem ok_L_motionState : mokH mL_motionState 3 := ⟨tb_in 1477 (by decide +kernel) (by decide +kernel), tb_in 0 (by decide +kernel) (by decide +kernel), by decide +kernel, ⟨by decide +kernel, by decide +kernel, by decide +kernel⟩, by decide, rfl, tb_in 1476 (by decide +kernel) (by decide +kernel)⟩
theorem W_motionState {a1 : Int} (K : mt 276 d kc ks mX10_motionState [.ref 0, .int (iI a1)] (fun r μ' => ∃ v : Int, r = some (.int (iI v)) ∧ rng v ∧ Q (some (.int (iI 0))) (wr μ' 289 0 v)) (fun E μ' => (E = "java/lang/IndexOutOfBoundsException" ∧ Q (some (.int (iI 1))) μ')) μ) : mt 291 (d + 1) kc ks mL_motionState [.ref 0, .int (iI a1), .ref 289] Q X μ := by
  show go 291 (d + 1) kc ks mL_motionState Q X 0 [.ref 0, .int (iI a1), .ref 289, .null] [] _
  refine go_aload_n (y := mL_motionState) (pc := 0) dL_motionState_0 rfl rfl ?_
  refine go_iconst (y := mL_motionState) (pc := 1) dL_motionState_1 ?_
  refine go_aload_n (y := mL_motionState) (pc := 2) dL_motionState_2 rfl rfl ?_
  refine go_iload_n (y := mL_motionState) (pc := 3) dL_motionState_3 rfl rfl ?_
  refine go_callVH (y := mL_motionState) (pc := 4) (y' := mX10_motionState) (as := [.int (iI a1)]) (z' := 276) (d' := d) (kc' := kc) (ks' := ks) (kc2 := 0) (ks2 := 0) dL_motionState_4 rfl ml_L_48 ok_X10_motionState (show shp 0 = _ from rfl) ⟨_, _, rfl⟩ (by decide) rfl (Nat.le_of_ble_eq_true rfl) (by intro v hv; simp only [List.mem_cons, List.not_mem_nil, or_false] at hv; rw [hv]; rfl) (Nat.le_of_ble_eq_true rfl) (by decide) (Nat.le_refl _) (Nat.le_refl _) (Nat.le_refl _) (mt_mono K (fun r μ' h => ?_) (fun E μ' h => ?_))
  · obtain ⟨v, rfl, hv, hQ⟩ := h
    refine go_i2l (y := mL_motionState) (pc := 7) dL_motionState_7 ?_
    refine go_lastore (y := mL_motionState) (pc := 8) dL_motionState_8 (by decide) hv ?_
    refine go_goto (y := mL_motionState) (pc := 9) (tgt := 15) dL_motionState_9 (by decide) ?_
    refine go_iconst (y := mL_motionState) (pc := 15) dL_motionState_15 ?_
    exact go_ireturn (y := mL_motionState) (pc := 16) dL_motionState_16 rfl hQ
  · obtain ⟨rfl, hQ⟩ := h
    refine ⟨12, 3, ⟨[], ⟨0, 9, 12, 24⟩, [], rfl, (fun z hz => by cases hz), by decide, by decide, lcl_24, lca_24, rfl⟩, by decide, Or.inl ⟨3, rfl, dL_motionState_12, ?_⟩⟩
    refine go_iconst (y := mL_motionState) (pc := 13) dL_motionState_13 ?_
    exact go_ireturn (y := mL_motionState) (pc := 14) dL_motionState_14 rfl hQ
def mL_lather : MI := (yL_lather, cL_lather, 4, some .int, [(0, 9, 12, 24)], none)
theorem ok_L_lather : mokH mL_lather 3 := ⟨tb_in 1484 (by decide +kernel) (by decide +kernel), tb_in 0 (by decide +kernel) (by decide +kernel), by decide +kernel, ⟨by decide +kernel, by decide +kernel, by decide +kernel⟩, by decide, rfl, tb_in 1483 (by decide +kernel) (by decide +kernel)⟩
theorem W_lather {a1 : Int} (K : mt 276 d kc ks mX10_lather [.ref 0, .int (iI a1)] (fun r μ' => ∃ v : Int, r = some (.int (iI v)) ∧ rng v ∧ Q (some (.int (iI 0))) (wr μ' 289 0 v)) (fun E μ' => (E = "java/lang/IndexOutOfBoundsException" ∧ Q (some (.int (iI 1))) μ')) μ) : mt 291 (d + 1) kc ks mL_lather [.ref 0, .int (iI a1), .ref 289] Q X μ := by
  show go 291 (d + 1) kc ks mL_lather Q X 0 [.ref 0, .int (iI a1), .ref 289, .null] [] _
  refine go_aload_n (y := mL_lather) (pc := 0) dL_lather_0 rfl rfl ?_
  refine go_iconst (y := mL_lather) (pc := 1) dL_lather_1 ?_
  refine go_aload_n (y := mL_lather) (pc := 2) dL_lather_2 rfl rfl ?_
  refine go_iload_n (y := mL_lather) (pc := 3) dL_lather_3 rfl rfl ?_
  refine go_callVH (y := mL_lather) (pc := 4) (y' := mX10_lather) (as := [.int (iI a1)]) (z' := 276) (d' := d) (kc' := kc) (ks' := ks) (kc2 := 0) (ks2 := 0) dL_lather_4 rfl ml_L_51 ok_X10_lather (show shp 0 = _ from rfl) ⟨_, _, rfl⟩ (by decide) rfl (Nat.le_of_ble_eq_true rfl) (by intro v hv; simp only [List.mem_cons, List.not_mem_nil, or_false] at hv; rw [hv]; rfl) (Nat.le_of_ble_eq_true rfl) (by decide) (Nat.le_refl _) (Nat.le_refl _) (Nat.le_refl _) (mt_mono K (fun r μ' h => ?_) (fun E μ' h => ?_))
  · obtain ⟨v, rfl, hv, hQ⟩ := h
    refine go_i2l (y := mL_lather) (pc := 7) dL_lather_7 ?_
    refine go_lastore (y := mL_lather) (pc := 8) dL_lather_8 (by decide) hv ?_
    refine go_goto (y := mL_lather) (pc := 9) (tgt := 15) dL_lather_9 (by decide) ?_
    refine go_iconst (y := mL_lather) (pc := 15) dL_lather_15 ?_
    exact go_ireturn (y := mL_lather) (pc := 16) dL_lather_16 rfl hQ
  · obtain ⟨rfl, hQ⟩ := h
    refine ⟨12, 3, ⟨[], ⟨0, 9, 12, 24⟩, [], rfl, (fun z hz => by cases hz), by decide, by decide, lcl_24, lca_24, rfl⟩, by decide, Or.inl ⟨3, rfl, dL_lather_12, ?_⟩⟩
    refine go_iconst (y := mL_lather) (pc := 13) dL_lather_13 ?_
    exact go_ireturn (y := mL_lather) (pc := 14) dL_lather_14 rfl hQ
def mL_weightFor : MI := (yL_weightFor, cL_weightFor, 4, some .int, [(0, 9, 12, 24)], none)
theorem ok_L_weightFor : mokH mL_weightFor 3 := ⟨tb_in 1491 (by decide +kernel) (by decide +kernel), tb_in 0 (by decide +kernel) (by decide +kernel), by decide +kernel, ⟨by decide +kernel, by decide +kernel, by decide +kernel⟩, by decide, rfl, tb_in 1490 (by decide +kernel) (by decide +kernel)⟩
theorem W_weightFor {a1 : Int} (K : mt 276 d kc ks mX10_weightFor [.ref 0, .int (iI a1)] (fun r μ' => ∃ v : Int, r = some (.int (iI v)) ∧ rng v ∧ Q (some (.int (iI 0))) (wr μ' 289 0 v)) (fun E μ' => (E = "java/lang/IndexOutOfBoundsException" ∧ Q (some (.int (iI 1))) μ')) μ) : mt 291 (d + 1) kc ks mL_weightFor [.ref 0, .int (iI a1), .ref 289] Q X μ := by
  show go 291 (d + 1) kc ks mL_weightFor Q X 0 [.ref 0, .int (iI a1), .ref 289, .null] [] _
  refine go_aload_n (y := mL_weightFor) (pc := 0) dL_weightFor_0 rfl rfl ?_
  refine go_iconst (y := mL_weightFor) (pc := 1) dL_weightFor_1 ?_
  refine go_aload_n (y := mL_weightFor) (pc := 2) dL_weightFor_2 rfl rfl ?_
  refine go_iload_n (y := mL_weightFor) (pc := 3) dL_weightFor_3 rfl rfl ?_
  refine go_callVH (y := mL_weightFor) (pc := 4) (y' := mX10_weightFor) (as := [.int (iI a1)]) (z' := 276) (d' := d) (kc' := kc) (ks' := ks) (kc2 := 0) (ks2 := 0) dL_weightFor_4 rfl ml_L_54 ok_X10_weightFor (show shp 0 = _ from rfl) ⟨_, _, rfl⟩ (by decide) rfl (Nat.le_of_ble_eq_true rfl) (by intro v hv; simp only [List.mem_cons, List.not_mem_nil, or_false] at hv; rw [hv]; rfl) (Nat.le_of_ble_eq_true rfl) (by decide) (Nat.le_refl _) (Nat.le_refl _) (Nat.le_refl _) (mt_mono K (fun r μ' h => ?_) (fun E μ' h => ?_))
  · obtain ⟨v, rfl, hv, hQ⟩ := h
    refine go_i2l (y := mL_weightFor) (pc := 7) dL_weightFor_7 ?_
    refine go_lastore (y := mL_weightFor) (pc := 8) dL_weightFor_8 (by decide) hv ?_
    refine go_goto (y := mL_weightFor) (pc := 9) (tgt := 15) dL_weightFor_9 (by decide) ?_
    refine go_iconst (y := mL_weightFor) (pc := 15) dL_weightFor_15 ?_
    exact go_ireturn (y := mL_weightFor) (pc := 16) dL_weightFor_16 rfl hQ
  · obtain ⟨rfl, hQ⟩ := h
    refine ⟨12, 3, ⟨[], ⟨0, 9, 12, 24⟩, [], rfl, (fun z hz => by cases hz), by decide, by decide, lcl_24, lca_24, rfl⟩, by decide, Or.inl ⟨3, rfl, dL_weightFor_12, ?_⟩⟩
    refine go_iconst (y := mL_weightFor) (pc := 13) dL_weightFor_13 ?_
    exact go_ireturn (y := mL_weightFor) (pc := 14) dL_weightFor_14 rfl hQ
def mL_weightAgainst : MI := (yL_weightAgainst, cL_weightAgainst, 4, some .int, [(0, 9, 12, 24)], none)
theorem ok_L_weightAgainst : mokH mL_weightAgainst 3 := ⟨tb_in 1499 (by decide +kernel) (by decide +kernel), tb_in 0 (by decide +kernel) (by decide +kernel), by decide +kernel, ⟨by decide +kernel, by decide +kernel, by decide +kernel⟩, by decide, rfl, tb_in 1498 (by decide +kernel) (by decide +kernel)⟩
theorem W_weightAgainst {a1 : Int} (K : mt 276 d kc ks mX10_weightAgainst [.ref 0, .int (iI a1)] (fun r μ' => ∃ v : Int, r = some (.int (iI v)) ∧ rng v ∧ Q (some (.int (iI 0))) (wr μ' 289 0 v)) (fun E μ' => (E = "java/lang/IndexOutOfBoundsException" ∧ Q (some (.int (iI 1))) μ')) μ) : mt 291 (d + 1) kc ks mL_weightAgainst [.ref 0, .int (iI a1), .ref 289] Q X μ := by
  show go 291 (d + 1) kc ks mL_weightAgainst Q X 0 [.ref 0, .int (iI a1), .ref 289, .null] [] _
  refine go_aload_n (y := mL_weightAgainst) (pc := 0) dL_weightAgainst_0 rfl rfl ?_
  refine go_iconst (y := mL_weightAgainst) (pc := 1) dL_weightAgainst_1 ?_
  refine go_aload_n (y := mL_weightAgainst) (pc := 2) dL_weightAgainst_2 rfl rfl ?_
  refine go_iload_n (y := mL_weightAgainst) (pc := 3) dL_weightAgainst_3 rfl rfl ?_
  refine go_callVH (y := mL_weightAgainst) (pc := 4) (y' := mX10_weightAgainst) (as := [.int (iI a1)]) (z' := 276) (d' := d) (kc' := kc) (ks' := ks) (kc2 := 0) (ks2 := 0) dL_weightAgainst_4 rfl ml_L_57 ok_X10_weightAgainst (show shp 0 = _ from rfl) ⟨_, _, rfl⟩ (by decide) rfl (Nat.le_of_ble_eq_true rfl) (by intro v hv; simp only [List.mem_cons, List.not_mem_nil, or_false] at hv; rw [hv]; rfl) (Nat.le_of_ble_eq_true rfl) (by decide) (Nat.le_refl _) (Nat.le_refl _) (Nat.le_refl _) (mt_mono K (fun r μ' h => ?_) (fun E μ' h => ?_))
  · obtain ⟨v, rfl, hv, hQ⟩ := h
    refine go_i2l (y := mL_weightAgainst) (pc := 7) dL_weightAgainst_7 ?_
    refine go_lastore (y := mL_weightAgainst) (pc := 8) dL_weightAgainst_8 (by decide) hv ?_
    refine go_goto (y := mL_weightAgainst) (pc := 9) (tgt := 15) dL_weightAgainst_9 (by decide) ?_
    refine go_iconst (y := mL_weightAgainst) (pc := 15) dL_weightAgainst_15 ?_
    exact go_ireturn (y := mL_weightAgainst) (pc := 16) dL_weightAgainst_16 rfl hQ
  · obtain ⟨rfl, hQ⟩ := h
    refine ⟨12, 3, ⟨[], ⟨0, 9, 12, 24⟩, [], rfl, (fun z hz => by cases hz), by decide, by decide, lcl_24, lca_24, rfl⟩, by decide, Or.inl ⟨3, rfl, dL_weightAgainst_12, ?_⟩⟩
    refine go_iconst (y := mL_weightAgainst) (pc := 13) dL_weightAgainst_13 ?_
    exact go_ireturn (y := mL_weightAgainst) (pc := 14) dL_weightAgainst_14 rfl hQ
def mL_voterCount : MI := (yL_voterCount, cL_voterCount, 4, some .int, [(0, 9, 12, 24)], none)
theorem ok_L_voterCount : mokH mL_voterCount 3 := ⟨tb_in 1506 (by decide +kernel) (by decide +kernel), tb_in 0 (by decide +kernel) (by decide +kernel), by decide +kernel, ⟨by decide +kernel, by decide +kernel, by decide +kernel⟩, by decide, rfl, tb_in 1505 (by decide +kernel) (by decide +kernel)⟩
theorem W_voterCount {a1 : Int} (K : mt 276 d kc ks mX10_voterCount [.ref 0, .int (iI a1)] (fun r μ' => ∃ v : Int, r = some (.int (iI v)) ∧ rng v ∧ Q (some (.int (iI 0))) (wr μ' 289 0 v)) (fun E μ' => (E = "java/lang/IndexOutOfBoundsException" ∧ Q (some (.int (iI 1))) μ')) μ) : mt 291 (d + 1) kc ks mL_voterCount [.ref 0, .int (iI a1), .ref 289] Q X μ := by
  show go 291 (d + 1) kc ks mL_voterCount Q X 0 [.ref 0, .int (iI a1), .ref 289, .null] [] _
  refine go_aload_n (y := mL_voterCount) (pc := 0) dL_voterCount_0 rfl rfl ?_
  refine go_iconst (y := mL_voterCount) (pc := 1) dL_voterCount_1 ?_
  refine go_aload_n (y := mL_voterCount) (pc := 2) dL_voterCount_2 rfl rfl ?_
  refine go_iload_n (y := mL_voterCount) (pc := 3) dL_voterCount_3 rfl rfl ?_
  refine go_callVH (y := mL_voterCount) (pc := 4) (y' := mX10_voterCount) (as := [.int (iI a1)]) (z' := 276) (d' := d) (kc' := kc) (ks' := ks) (kc2 := 0) (ks2 := 0) dL_voterCount_4 rfl ml_L_60 ok_X10_voterCount (show shp 0 = _ from rfl) ⟨_, _, rfl⟩ (by decide) rfl (Nat.le_of_ble_eq_true rfl) (by intro v hv; simp only [List.mem_cons, List.not_mem_nil, or_false] at hv; rw [hv]; rfl) (Nat.le_of_ble_eq_true rfl) (by decide) (Nat.le_refl _) (Nat.le_refl _) (Nat.le_refl _) (mt_mono K (fun r μ' h => ?_) (fun E μ' h => ?_))
  · obtain ⟨v, rfl, hv, hQ⟩ := h
    refine go_i2l (y := mL_voterCount) (pc := 7) dL_voterCount_7 ?_
    refine go_lastore (y := mL_voterCount) (pc := 8) dL_voterCount_8 (by decide) hv ?_
    refine go_goto (y := mL_voterCount) (pc := 9) (tgt := 15) dL_voterCount_9 (by decide) ?_
    refine go_iconst (y := mL_voterCount) (pc := 15) dL_voterCount_15 ?_
    exact go_ireturn (y := mL_voterCount) (pc := 16) dL_voterCount_16 rfl hQ
  · obtain ⟨rfl, hQ⟩ := h
    refine ⟨12, 3, ⟨[], ⟨0, 9, 12, 24⟩, [], rfl, (fun z hz => by cases hz), by decide, by decide, lcl_24, lca_24, rfl⟩, by decide, Or.inl ⟨3, rfl, dL_voterCount_12, ?_⟩⟩
    refine go_iconst (y := mL_voterCount) (pc := 13) dL_voterCount_13 ?_
    exact go_ireturn (y := mL_voterCount) (pc := 14) dL_voterCount_14 rfl hQ
def mL_obstacle : MI := (yL_obstacle, cL_obstacle, 4, some .int, [(0, 9, 12, 24)], none)
theorem ok_L_obstacle : mokH mL_obstacle 3 := ⟨tb_in 1514 (by decide +kernel) (by decide +kernel), tb_in 0 (by decide +kernel) (by decide +kernel), by decide +kernel, ⟨by decide +kernel, by decide +kernel, by decide +kernel⟩, by decide, rfl, tb_in 1513 (by decide +kernel) (by decide +kernel)⟩
theorem W_obstacle {a1 : Int} (K : mt 276 d kc ks mX10_obstacle [.ref 0, .int (iI a1)] (fun r μ' => ∃ v : Int, r = some (.int (iI v)) ∧ rng v ∧ Q (some (.int (iI 0))) (wr μ' 289 0 v)) (fun E μ' => (E = "java/lang/IndexOutOfBoundsException" ∧ Q (some (.int (iI 1))) μ')) μ) : mt 291 (d + 1) kc ks mL_obstacle [.ref 0, .int (iI a1), .ref 289] Q X μ := by
  show go 291 (d + 1) kc ks mL_obstacle Q X 0 [.ref 0, .int (iI a1), .ref 289, .null] [] _
  refine go_aload_n (y := mL_obstacle) (pc := 0) dL_obstacle_0 rfl rfl ?_
  refine go_iconst (y := mL_obstacle) (pc := 1) dL_obstacle_1 ?_
  refine go_aload_n (y := mL_obstacle) (pc := 2) dL_obstacle_2 rfl rfl ?_
  refine go_iload_n (y := mL_obstacle) (pc := 3) dL_obstacle_3 rfl rfl ?_
  refine go_callVH (y := mL_obstacle) (pc := 4) (y' := mX10_obstacle) (as := [.int (iI a1)]) (z' := 276) (d' := d) (kc' := kc) (ks' := ks) (kc2 := 0) (ks2 := 0) dL_obstacle_4 rfl ml_L_63 ok_X10_obstacle (show shp 0 = _ from rfl) ⟨_, _, rfl⟩ (by decide) rfl (Nat.le_of_ble_eq_true rfl) (by intro v hv; simp only [List.mem_cons, List.not_mem_nil, or_false] at hv; rw [hv]; rfl) (Nat.le_of_ble_eq_true rfl) (by decide) (Nat.le_refl _) (Nat.le_refl _) (Nat.le_refl _) (mt_mono K (fun r μ' h => ?_) (fun E μ' h => ?_))
  · obtain ⟨v, rfl, hv, hQ⟩ := h
    refine go_i2l (y := mL_obstacle) (pc := 7) dL_obstacle_7 ?_
    refine go_lastore (y := mL_obstacle) (pc := 8) dL_obstacle_8 (by decide) hv ?_
    refine go_goto (y := mL_obstacle) (pc := 9) (tgt := 15) dL_obstacle_9 (by decide) ?_
    refine go_iconst (y := mL_obstacle) (pc := 15) dL_obstacle_15 ?_
    exact go_ireturn (y := mL_obstacle) (pc := 16) dL_obstacle_16 rfl hQ
  · obtain ⟨rfl, hQ⟩ := h
    refine ⟨12, 3, ⟨[], ⟨0, 9, 12, 24⟩, [], rfl, (fun z hz => by cases hz), by decide, by decide, lcl_24, lca_24, rfl⟩, by decide, Or.inl ⟨3, rfl, dL_obstacle_12, ?_⟩⟩
    refine go_iconst (y := mL_obstacle) (pc := 13) dL_obstacle_13 ?_
    exact go_ireturn (y := mL_obstacle) (pc := 14) dL_obstacle_14 rfl hQ
def mL_wouldPass : MI := (yL_wouldPass, cL_wouldPass, 4, some .int, [(0, 16, 19, 24)], none)
theorem ok_L_wouldPass : mokH mL_wouldPass 3 := ⟨tb_in 1522 (by decide +kernel) (by decide +kernel), tb_in 0 (by decide +kernel) (by decide +kernel), by decide +kernel, ⟨by decide +kernel, by decide +kernel, by decide +kernel⟩, by decide, rfl, tb_in 1521 (by decide +kernel) (by decide +kernel)⟩
theorem W_wouldPass {a1 : Int} (K : mt 276 d kc ks mX10_wouldPass [.ref 0, .int (iI a1)] (fun r μ' => ∃ v : Int, r = some (.int (iI v)) ∧ (v = 0 ∨ v = 1) ∧ Q (some (.int (iI 0))) (wr μ' 289 0 v)) (fun E μ' => (E = "java/lang/IndexOutOfBoundsException" ∧ Q (some (.int (iI 1))) μ')) μ) : mt 291 (d + 1) kc ks mL_wouldPass [.ref 0, .int (iI a1), .ref 289] Q X μ := by
  show go 291 (d + 1) kc ks mL_wouldPass Q X 0 [.ref 0, .int (iI a1), .ref 289, .null] [] _
  refine go_aload_n (y := mL_wouldPass) (pc := 0) dL_wouldPass_0 rfl rfl ?_
  refine go_iconst (y := mL_wouldPass) (pc := 1) dL_wouldPass_1 ?_
  refine go_aload_n (y := mL_wouldPass) (pc := 2) dL_wouldPass_2 rfl rfl ?_
  refine go_iload_n (y := mL_wouldPass) (pc := 3) dL_wouldPass_3 rfl rfl ?_
  refine go_callVH (y := mL_wouldPass) (pc := 4) (y' := mX10_wouldPass) (as := [.int (iI a1)]) (z' := 276) (d' := d) (kc' := kc) (ks' := ks) (kc2 := 0) (ks2 := 0) dL_wouldPass_4 rfl ml_L_66 ok_X10_wouldPass (show shp 0 = _ from rfl) ⟨_, _, rfl⟩ (by decide) rfl (Nat.le_of_ble_eq_true rfl) (by intro v hv; simp only [List.mem_cons, List.not_mem_nil, or_false] at hv; rw [hv]; rfl) (Nat.le_of_ble_eq_true rfl) (by decide) (Nat.le_refl _) (Nat.le_refl _) (Nat.le_refl _) (mt_mono K (fun r μ' h => ?_) (fun E μ' h => ?_))
  · obtain ⟨v, rfl, hv, hQ⟩ := h
    refine go_if_eq (y := mL_wouldPass) (pc := 7) (tgt := 14) dL_wouldPass_7 (by decide) (by unfold rng; omega) (fun h9 => ?_) (fun h9 => ?_)
    · rw [h9] at hQ
      refine go_lconst0 (y := mL_wouldPass) (pc := 14) dL_wouldPass_14 ?_
      refine go_lastore (y := mL_wouldPass) (pc := 15) dL_wouldPass_15 (by decide) (by decide) ?_
      refine go_goto (y := mL_wouldPass) (pc := 16) (tgt := 22) dL_wouldPass_16 (by decide) ?_
      refine go_iconst (y := mL_wouldPass) (pc := 22) dL_wouldPass_22 ?_
      exact go_ireturn (y := mL_wouldPass) (pc := 23) dL_wouldPass_23 rfl hQ
    · rw [show v = 1 by omega] at hQ
      refine go_lconst1 (y := mL_wouldPass) (pc := 10) dL_wouldPass_10 ?_
      refine go_goto (y := mL_wouldPass) (pc := 11) (tgt := 15) dL_wouldPass_11 (by decide) ?_
      refine go_lastore (y := mL_wouldPass) (pc := 15) dL_wouldPass_15 (by decide) (by decide) ?_
      refine go_goto (y := mL_wouldPass) (pc := 16) (tgt := 22) dL_wouldPass_16 (by decide) ?_
      refine go_iconst (y := mL_wouldPass) (pc := 22) dL_wouldPass_22 ?_
      exact go_ireturn (y := mL_wouldPass) (pc := 23) dL_wouldPass_23 rfl hQ
  · obtain ⟨rfl, hQ⟩ := h
    refine ⟨19, 3, ⟨[], ⟨0, 16, 19, 24⟩, [], rfl, (fun z hz => by cases hz), by decide, by decide, lcl_24, lca_24, rfl⟩, by decide, Or.inl ⟨3, rfl, dL_wouldPass_19, ?_⟩⟩
    refine go_iconst (y := mL_wouldPass) (pc := 20) dL_wouldPass_20 ?_
    exact go_ireturn (y := mL_wouldPass) (pc := 21) dL_wouldPass_21 rfl hQ
def mL_decisiveVoter : MI := (yL_decisiveVoter, cL_decisiveVoter, 4, some .int, [(0, 9, 12, 24)], none)
theorem ok_L_decisiveVoter : mokH mL_decisiveVoter 3 := ⟨tb_in 1530 (by decide +kernel) (by decide +kernel), tb_in 0 (by decide +kernel) (by decide +kernel), by decide +kernel, ⟨by decide +kernel, by decide +kernel, by decide +kernel⟩, by decide, rfl, tb_in 1529 (by decide +kernel) (by decide +kernel)⟩
theorem W_decisiveVoter {a1 : Int} (K : mt 276 d kc ks mX10_decisiveVoter [.ref 0, .int (iI a1)] (fun r μ' => ∃ v : Int, r = some (.int (iI v)) ∧ rng v ∧ Q (some (.int (iI 0))) (wr μ' 289 0 v)) (fun E μ' => (E = "java/lang/IndexOutOfBoundsException" ∧ Q (some (.int (iI 1))) μ')) μ) : mt 291 (d + 1) kc ks mL_decisiveVoter [.ref 0, .int (iI a1), .ref 289] Q X μ := by
  show go 291 (d + 1) kc ks mL_decisiveVoter Q X 0 [.ref 0, .int (iI a1), .ref 289, .null] [] _
  refine go_aload_n (y := mL_decisiveVoter) (pc := 0) dL_decisiveVoter_0 rfl rfl ?_
  refine go_iconst (y := mL_decisiveVoter) (pc := 1) dL_decisiveVoter_1 ?_
  refine go_aload_n (y := mL_decisiveVoter) (pc := 2) dL_decisiveVoter_2 rfl rfl ?_
  refine go_iload_n (y := mL_decisiveVoter) (pc := 3) dL_decisiveVoter_3 rfl rfl ?_
  refine go_callVH (y := mL_decisiveVoter) (pc := 4) (y' := mX10_decisiveVoter) (as := [.int (iI a1)]) (z' := 276) (d' := d) (kc' := kc) (ks' := ks) (kc2 := 0) (ks2 := 0) dL_decisiveVoter_4 rfl ml_L_70 ok_X10_decisiveVoter (show shp 0 = _ from rfl) ⟨_, _, rfl⟩ (by decide) rfl (Nat.le_of_ble_eq_true rfl) (by intro v hv; simp only [List.mem_cons, List.not_mem_nil, or_false] at hv; rw [hv]; rfl) (Nat.le_of_ble_eq_true rfl) (by decide) (Nat.le_refl _) (Nat.le_refl _) (Nat.le_refl _) (mt_mono K (fun r μ' h => ?_) (fun E μ' h => ?_))
  · obtain ⟨v, rfl, hv, hQ⟩ := h
    refine go_i2l (y := mL_decisiveVoter) (pc := 7) dL_decisiveVoter_7 ?_
    refine go_lastore (y := mL_decisiveVoter) (pc := 8) dL_decisiveVoter_8 (by decide) hv ?_
    refine go_goto (y := mL_decisiveVoter) (pc := 9) (tgt := 15) dL_decisiveVoter_9 (by decide) ?_
    refine go_iconst (y := mL_decisiveVoter) (pc := 15) dL_decisiveVoter_15 ?_
    exact go_ireturn (y := mL_decisiveVoter) (pc := 16) dL_decisiveVoter_16 rfl hQ
  · obtain ⟨rfl, hQ⟩ := h
    refine ⟨12, 3, ⟨[], ⟨0, 9, 12, 24⟩, [], rfl, (fun z hz => by cases hz), by decide, by decide, lcl_24, lca_24, rfl⟩, by decide, Or.inl ⟨3, rfl, dL_decisiveVoter_12, ?_⟩⟩
    refine go_iconst (y := mL_decisiveVoter) (pc := 13) dL_decisiveVoter_13 ?_
    exact go_ireturn (y := mL_decisiveVoter) (pc := 14) dL_decisiveVoter_14 rfl hQ
def mL_speaker : MI := (yL_speaker, cL_speaker, 4, some .int, [(0, 9, 12, 24)], none)
theorem ok_L_speaker : mokH mL_speaker 3 := ⟨tb_in 1541 (by decide +kernel) (by decide +kernel), tb_in 0 (by decide +kernel) (by decide +kernel), by decide +kernel, ⟨by decide +kernel, by decide +kernel, by decide +kernel⟩, by decide, rfl, tb_in 1540 (by decide +kernel) (by decide +kernel)⟩
theorem W_speaker {a1 : Int} (K : mt 276 d kc ks mX10_speaker [.ref 0, .int (iI a1)] (fun r μ' => ∃ v : Int, r = some (.int (iI v)) ∧ rng v ∧ Q (some (.int (iI 0))) (wr μ' 289 0 v)) (fun E μ' => (E = "java/lang/IndexOutOfBoundsException" ∧ Q (some (.int (iI 1))) μ')) μ) : mt 291 (d + 1) kc ks mL_speaker [.ref 0, .int (iI a1), .ref 289] Q X μ := by
  show go 291 (d + 1) kc ks mL_speaker Q X 0 [.ref 0, .int (iI a1), .ref 289, .null] [] _
  refine go_aload_n (y := mL_speaker) (pc := 0) dL_speaker_0 rfl rfl ?_
  refine go_iconst (y := mL_speaker) (pc := 1) dL_speaker_1 ?_
  refine go_aload_n (y := mL_speaker) (pc := 2) dL_speaker_2 rfl rfl ?_
  refine go_iload_n (y := mL_speaker) (pc := 3) dL_speaker_3 rfl rfl ?_
  refine go_callVH (y := mL_speaker) (pc := 4) (y' := mX10_speaker) (as := [.int (iI a1)]) (z' := 276) (d' := d) (kc' := kc) (ks' := ks) (kc2 := 0) (ks2 := 0) dL_speaker_4 rfl ml_L_73 ok_X10_speaker (show shp 0 = _ from rfl) ⟨_, _, rfl⟩ (by decide) rfl (Nat.le_of_ble_eq_true rfl) (by intro v hv; simp only [List.mem_cons, List.not_mem_nil, or_false] at hv; rw [hv]; rfl) (Nat.le_of_ble_eq_true rfl) (by decide) (Nat.le_refl _) (Nat.le_refl _) (Nat.le_refl _) (mt_mono K (fun r μ' h => ?_) (fun E μ' h => ?_))
  · obtain ⟨v, rfl, hv, hQ⟩ := h
    refine go_i2l (y := mL_speaker) (pc := 7) dL_speaker_7 ?_
    refine go_lastore (y := mL_speaker) (pc := 8) dL_speaker_8 (by decide) hv ?_
    refine go_goto (y := mL_speaker) (pc := 9) (tgt := 15) dL_speaker_9 (by decide) ?_
    refine go_iconst (y := mL_speaker) (pc := 15) dL_speaker_15 ?_
    exact go_ireturn (y := mL_speaker) (pc := 16) dL_speaker_16 rfl hQ
  · obtain ⟨rfl, hQ⟩ := h
    refine ⟨12, 3, ⟨[], ⟨0, 9, 12, 24⟩, [], rfl, (fun z hz => by cases hz), by decide, by decide, lcl_24, lca_24, rfl⟩, by decide, Or.inl ⟨3, rfl, dL_speaker_12, ?_⟩⟩
    refine go_iconst (y := mL_speaker) (pc := 13) dL_speaker_13 ?_
    exact go_ireturn (y := mL_speaker) (pc := 14) dL_speaker_14 rfl hQ
def mL_speechMotion : MI := (yL_speechMotion, cL_speechMotion, 4, some .int, [(0, 9, 12, 24), (0, 9, 15, 79)], none)
theorem ok_L_speechMotion : mokH mL_speechMotion 3 := ⟨tb_in 1554 (by decide +kernel) (by decide +kernel), tb_in 0 (by decide +kernel) (by decide +kernel), by decide +kernel, ⟨by decide +kernel, by decide +kernel, by decide +kernel⟩, by decide, rfl, tb_in 1553 (by decide +kernel) (by decide +kernel)⟩
theorem W_speechMotion {a1 : Int} (K : mt 276 d kc ks mX10_speechMotion [.ref 0, .int (iI a1)] (fun r μ' => ∃ v : Int, r = some (.int (iI v)) ∧ rng v ∧ Q (some (.int (iI 0))) (wr μ' 289 0 v)) (fun E μ' => (E = "java/lang/IndexOutOfBoundsException" ∧ Q (some (.int (iI 1))) μ') ∨ (E = "java/util/NoSuchElementException" ∧ Q (some (.int (iI 2))) μ')) μ) : mt 291 (d + 1) kc ks mL_speechMotion [.ref 0, .int (iI a1), .ref 289] Q X μ := by
  show go 291 (d + 1) kc ks mL_speechMotion Q X 0 [.ref 0, .int (iI a1), .ref 289, .null] [] _
  refine go_aload_n (y := mL_speechMotion) (pc := 0) dL_speechMotion_0 rfl rfl ?_
  refine go_iconst (y := mL_speechMotion) (pc := 1) dL_speechMotion_1 ?_
  refine go_aload_n (y := mL_speechMotion) (pc := 2) dL_speechMotion_2 rfl rfl ?_
  refine go_iload_n (y := mL_speechMotion) (pc := 3) dL_speechMotion_3 rfl rfl ?_
  refine go_callVH (y := mL_speechMotion) (pc := 4) (y' := mX10_speechMotion) (as := [.int (iI a1)]) (z' := 276) (d' := d) (kc' := kc) (ks' := ks) (kc2 := 0) (ks2 := 0) dL_speechMotion_4 rfl ml_L_76 ok_X10_speechMotion (show shp 0 = _ from rfl) ⟨_, _, rfl⟩ (by decide) rfl (Nat.le_of_ble_eq_true rfl) (by intro v hv; simp only [List.mem_cons, List.not_mem_nil, or_false] at hv; rw [hv]; rfl) (Nat.le_of_ble_eq_true rfl) (by decide) (Nat.le_refl _) (Nat.le_refl _) (Nat.le_refl _) (mt_mono K (fun r μ' h => ?_) (fun E μ' h => ?_))
  · obtain ⟨v, rfl, hv, hQ⟩ := h
    refine go_i2l (y := mL_speechMotion) (pc := 7) dL_speechMotion_7 ?_
    refine go_lastore (y := mL_speechMotion) (pc := 8) dL_speechMotion_8 (by decide) hv ?_
    refine go_goto (y := mL_speechMotion) (pc := 9) (tgt := 18) dL_speechMotion_9 (by decide) ?_
    refine go_iconst (y := mL_speechMotion) (pc := 18) dL_speechMotion_18 ?_
    exact go_ireturn (y := mL_speechMotion) (pc := 19) dL_speechMotion_19 rfl hQ
  · rcases h with ⟨rfl, hQ⟩ | ⟨rfl, hQ⟩
    · refine ⟨12, 3, ⟨[], ⟨0, 9, 12, 24⟩, [⟨0, 9, 15, 79⟩], rfl, (fun z hz => by cases hz), by decide, by decide, lcl_24, lca_24, rfl⟩, by decide, Or.inl ⟨3, rfl, dL_speechMotion_12, ?_⟩⟩
      refine go_iconst (y := mL_speechMotion) (pc := 13) dL_speechMotion_13 ?_
      exact go_ireturn (y := mL_speechMotion) (pc := 14) dL_speechMotion_14 rfl hQ
    · refine ⟨15, 3, ⟨[⟨0, 9, 12, 24⟩], ⟨0, 9, 15, 79⟩, [], rfl, (fun z hz => by simp only [List.mem_cons, List.not_mem_nil, or_false] at hz; rcases hz with rfl <;> first | exact Or.inr ⟨by decide, _, lcl_24, by decide +kernel⟩), by decide, by decide, lcl_79, lca_79, rfl⟩, by decide, Or.inl ⟨3, rfl, dL_speechMotion_15, ?_⟩⟩
      refine go_iconst (y := mL_speechMotion) (pc := 16) dL_speechMotion_16 ?_
      exact go_ireturn (y := mL_speechMotion) (pc := 17) dL_speechMotion_17 rfl hQ
def mL_remainingTime : MI := (yL_remainingTime, cL_remainingTime, 4, some .int, [(0, 9, 12, 24)], none)
theorem ok_L_remainingTime : mokH mL_remainingTime 3 := ⟨tb_in 1578 (by decide +kernel) (by decide +kernel), tb_in 0 (by decide +kernel) (by decide +kernel), by decide +kernel, ⟨by decide +kernel, by decide +kernel, by decide +kernel⟩, by decide, rfl, tb_in 1577 (by decide +kernel) (by decide +kernel)⟩
theorem W_remainingTime {a1 : Int} (K : mt 276 d kc ks mX10_remainingTime [.ref 0, .int (iI a1)] (fun r μ' => ∃ v : Int, r = some (.int (iI v)) ∧ rng v ∧ Q (some (.int (iI 0))) (wr μ' 289 0 v)) (fun E μ' => (E = "java/lang/IndexOutOfBoundsException" ∧ Q (some (.int (iI 1))) μ')) μ) : mt 291 (d + 1) kc ks mL_remainingTime [.ref 0, .int (iI a1), .ref 289] Q X μ := by
  show go 291 (d + 1) kc ks mL_remainingTime Q X 0 [.ref 0, .int (iI a1), .ref 289, .null] [] _
  refine go_aload_n (y := mL_remainingTime) (pc := 0) dL_remainingTime_0 rfl rfl ?_
  refine go_iconst (y := mL_remainingTime) (pc := 1) dL_remainingTime_1 ?_
  refine go_aload_n (y := mL_remainingTime) (pc := 2) dL_remainingTime_2 rfl rfl ?_
  refine go_iload_n (y := mL_remainingTime) (pc := 3) dL_remainingTime_3 rfl rfl ?_
  refine go_callVH (y := mL_remainingTime) (pc := 4) (y' := mX10_remainingTime) (as := [.int (iI a1)]) (z' := 276) (d' := d) (kc' := kc) (ks' := ks) (kc2 := 0) (ks2 := 0) dL_remainingTime_4 rfl ml_L_81 ok_X10_remainingTime (show shp 0 = _ from rfl) ⟨_, _, rfl⟩ (by decide) rfl (Nat.le_of_ble_eq_true rfl) (by intro v hv; simp only [List.mem_cons, List.not_mem_nil, or_false] at hv; rw [hv]; rfl) (Nat.le_of_ble_eq_true rfl) (by decide) (Nat.le_refl _) (Nat.le_refl _) (Nat.le_refl _) (mt_mono K (fun r μ' h => ?_) (fun E μ' h => ?_))
  · obtain ⟨v, rfl, hv, hQ⟩ := h
    refine go_i2l (y := mL_remainingTime) (pc := 7) dL_remainingTime_7 ?_
    refine go_lastore (y := mL_remainingTime) (pc := 8) dL_remainingTime_8 (by decide) hv ?_
    refine go_goto (y := mL_remainingTime) (pc := 9) (tgt := 15) dL_remainingTime_9 (by decide) ?_
    refine go_iconst (y := mL_remainingTime) (pc := 15) dL_remainingTime_15 ?_
    exact go_ireturn (y := mL_remainingTime) (pc := 16) dL_remainingTime_16 rfl hQ
  · obtain ⟨rfl, hQ⟩ := h
    refine ⟨12, 3, ⟨[], ⟨0, 9, 12, 24⟩, [], rfl, (fun z hz => by cases hz), by decide, by decide, lcl_24, lca_24, rfl⟩, by decide, Or.inl ⟨3, rfl, dL_remainingTime_12, ?_⟩⟩
    refine go_iconst (y := mL_remainingTime) (pc := 13) dL_remainingTime_13 ?_
    exact go_ireturn (y := mL_remainingTime) (pc := 14) dL_remainingTime_14 rfl hQ
def mL_isRebutted : MI := (yL_isRebutted, cL_isRebutted, 4, some .int, [(0, 16, 19, 24)], none)
theorem ok_L_isRebutted : mokH mL_isRebutted 3 := ⟨tb_in 1585 (by decide +kernel) (by decide +kernel), tb_in 0 (by decide +kernel) (by decide +kernel), by decide +kernel, ⟨by decide +kernel, by decide +kernel, by decide +kernel⟩, by decide, rfl, tb_in 1584 (by decide +kernel) (by decide +kernel)⟩
theorem W_isRebutted {a1 : Int} (K : mt 276 d kc ks mX10_isRebutted [.ref 0, .int (iI a1)] (fun r μ' => ∃ v : Int, r = some (.int (iI v)) ∧ (v = 0 ∨ v = 1) ∧ Q (some (.int (iI 0))) (wr μ' 289 0 v)) (fun E μ' => (E = "java/lang/IndexOutOfBoundsException" ∧ Q (some (.int (iI 1))) μ')) μ) : mt 291 (d + 1) kc ks mL_isRebutted [.ref 0, .int (iI a1), .ref 289] Q X μ := by
  show go 291 (d + 1) kc ks mL_isRebutted Q X 0 [.ref 0, .int (iI a1), .ref 289, .null] [] _
  refine go_aload_n (y := mL_isRebutted) (pc := 0) dL_isRebutted_0 rfl rfl ?_
  refine go_iconst (y := mL_isRebutted) (pc := 1) dL_isRebutted_1 ?_
  refine go_aload_n (y := mL_isRebutted) (pc := 2) dL_isRebutted_2 rfl rfl ?_
  refine go_iload_n (y := mL_isRebutted) (pc := 3) dL_isRebutted_3 rfl rfl ?_
  refine go_callVH (y := mL_isRebutted) (pc := 4) (y' := mX10_isRebutted) (as := [.int (iI a1)]) (z' := 276) (d' := d) (kc' := kc) (ks' := ks) (kc2 := 0) (ks2 := 0) dL_isRebutted_4 rfl ml_L_84 ok_X10_isRebutted (show shp 0 = _ from rfl) ⟨_, _, rfl⟩ (by decide) rfl (Nat.le_of_ble_eq_true rfl) (by intro v hv; simp only [List.mem_cons, List.not_mem_nil, or_false] at hv; rw [hv]; rfl) (Nat.le_of_ble_eq_true rfl) (by decide) (Nat.le_refl _) (Nat.le_refl _) (Nat.le_refl _) (mt_mono K (fun r μ' h => ?_) (fun E μ' h => ?_))
  · obtain ⟨v, rfl, hv, hQ⟩ := h
    refine go_if_eq (y := mL_isRebutted) (pc := 7) (tgt := 14) dL_isRebutted_7 (by decide) (by unfold rng; omega) (fun h9 => ?_) (fun h9 => ?_)
    · rw [h9] at hQ
      refine go_lconst0 (y := mL_isRebutted) (pc := 14) dL_isRebutted_14 ?_
      refine go_lastore (y := mL_isRebutted) (pc := 15) dL_isRebutted_15 (by decide) (by decide) ?_
      refine go_goto (y := mL_isRebutted) (pc := 16) (tgt := 22) dL_isRebutted_16 (by decide) ?_
      refine go_iconst (y := mL_isRebutted) (pc := 22) dL_isRebutted_22 ?_
      exact go_ireturn (y := mL_isRebutted) (pc := 23) dL_isRebutted_23 rfl hQ
    · rw [show v = 1 by omega] at hQ
      refine go_lconst1 (y := mL_isRebutted) (pc := 10) dL_isRebutted_10 ?_
      refine go_goto (y := mL_isRebutted) (pc := 11) (tgt := 15) dL_isRebutted_11 (by decide) ?_
      refine go_lastore (y := mL_isRebutted) (pc := 15) dL_isRebutted_15 (by decide) (by decide) ?_
      refine go_goto (y := mL_isRebutted) (pc := 16) (tgt := 22) dL_isRebutted_16 (by decide) ?_
      refine go_iconst (y := mL_isRebutted) (pc := 22) dL_isRebutted_22 ?_
      exact go_ireturn (y := mL_isRebutted) (pc := 23) dL_isRebutted_23 rfl hQ
  · obtain ⟨rfl, hQ⟩ := h
    refine ⟨19, 3, ⟨[], ⟨0, 16, 19, 24⟩, [], rfl, (fun z hz => by cases hz), by decide, by decide, lcl_24, lca_24, rfl⟩, by decide, Or.inl ⟨3, rfl, dL_isRebutted_19, ?_⟩⟩
    refine go_iconst (y := mL_isRebutted) (pc := 20) dL_isRebutted_20 ?_
    exact go_ireturn (y := mL_isRebutted) (pc := 21) dL_isRebutted_21 rfl hQ
def mL_firstBy : MI := (yL_firstBy, cL_firstBy, 4, some .int, [(0, 9, 12, 24)], none)
theorem ok_L_firstBy : mokH mL_firstBy 3 := ⟨tb_in 1592 (by decide +kernel) (by decide +kernel), tb_in 0 (by decide +kernel) (by decide +kernel), by decide +kernel, ⟨by decide +kernel, by decide +kernel, by decide +kernel⟩, by decide, rfl, tb_in 1591 (by decide +kernel) (by decide +kernel)⟩
theorem W_firstBy {a1 : Int} (K : mt 276 d kc ks mX10_firstBy [.ref 0, .int (iI a1)] (fun r μ' => ∃ v : Int, r = some (.int (iI v)) ∧ rng v ∧ Q (some (.int (iI 0))) (wr μ' 289 0 v)) (fun E μ' => (E = "java/lang/IndexOutOfBoundsException" ∧ Q (some (.int (iI 1))) μ')) μ) : mt 291 (d + 1) kc ks mL_firstBy [.ref 0, .int (iI a1), .ref 289] Q X μ := by
  show go 291 (d + 1) kc ks mL_firstBy Q X 0 [.ref 0, .int (iI a1), .ref 289, .null] [] _
  refine go_aload_n (y := mL_firstBy) (pc := 0) dL_firstBy_0 rfl rfl ?_
  refine go_iconst (y := mL_firstBy) (pc := 1) dL_firstBy_1 ?_
  refine go_aload_n (y := mL_firstBy) (pc := 2) dL_firstBy_2 rfl rfl ?_
  refine go_iload_n (y := mL_firstBy) (pc := 3) dL_firstBy_3 rfl rfl ?_
  refine go_callVH (y := mL_firstBy) (pc := 4) (y' := mX10_firstBy) (as := [.int (iI a1)]) (z' := 276) (d' := d) (kc' := kc) (ks' := ks) (kc2 := 0) (ks2 := 0) dL_firstBy_4 rfl ml_L_87 ok_X10_firstBy (show shp 0 = _ from rfl) ⟨_, _, rfl⟩ (by decide) rfl (Nat.le_of_ble_eq_true rfl) (by intro v hv; simp only [List.mem_cons, List.not_mem_nil, or_false] at hv; rw [hv]; rfl) (Nat.le_of_ble_eq_true rfl) (by decide) (Nat.le_refl _) (Nat.le_refl _) (Nat.le_refl _) (mt_mono K (fun r μ' h => ?_) (fun E μ' h => ?_))
  · obtain ⟨v, rfl, hv, hQ⟩ := h
    refine go_i2l (y := mL_firstBy) (pc := 7) dL_firstBy_7 ?_
    refine go_lastore (y := mL_firstBy) (pc := 8) dL_firstBy_8 (by decide) hv ?_
    refine go_goto (y := mL_firstBy) (pc := 9) (tgt := 15) dL_firstBy_9 (by decide) ?_
    refine go_iconst (y := mL_firstBy) (pc := 15) dL_firstBy_15 ?_
    exact go_ireturn (y := mL_firstBy) (pc := 16) dL_firstBy_16 rfl hQ
  · obtain ⟨rfl, hQ⟩ := h
    refine ⟨12, 3, ⟨[], ⟨0, 9, 12, 24⟩, [], rfl, (fun z hz => by cases hz), by decide, by decide, lcl_24, lca_24, rfl⟩, by decide, Or.inl ⟨3, rfl, dL_firstBy_12, ?_⟩⟩
    refine go_iconst (y := mL_firstBy) (pc := 13) dL_firstBy_13 ?_
    exact go_ireturn (y := mL_firstBy) (pc := 14) dL_firstBy_14 rfl hQ
def mL_meanLeaning : MI := (yL_meanLeaning, cL_meanLeaning, 4, some .int, [(0, 8, 11, 24)], none)
theorem ok_L_meanLeaning : mokH mL_meanLeaning 3 := ⟨tb_in 1607 (by decide +kernel) (by decide +kernel), tb_in 0 (by decide +kernel) (by decide +kernel), by decide +kernel, ⟨by decide +kernel, by decide +kernel, by decide +kernel⟩, by decide, rfl, tb_in 1606 (by decide +kernel) (by decide +kernel)⟩
theorem W_meanLeaning {a1 : Int} (K : mt 276 d kc ks mX10_meanLeaning [.ref 0, .int (iI a1)] (fun r μ' => ∃ v : UInt64, r = some (.double v) ∧ Q (some (.int (iI 0))) (wr (wr μ' 290 0 (dhi v)) 290 1 (dlo v))) (fun E μ' => (E = "java/lang/IndexOutOfBoundsException" ∧ Q (some (.int (iI 1))) μ')) μ) : mt 291 (d + 1) kc ks mL_meanLeaning [.ref 0, .int (iI a1), .ref 290] Q X μ := by
  show go 291 (d + 1) kc ks mL_meanLeaning Q X 0 [.ref 0, .int (iI a1), .ref 290, .null] [] _
  refine go_aload_n (y := mL_meanLeaning) (pc := 0) dL_meanLeaning_0 rfl rfl ?_
  refine go_iconst (y := mL_meanLeaning) (pc := 1) dL_meanLeaning_1 ?_
  refine go_aload_n (y := mL_meanLeaning) (pc := 2) dL_meanLeaning_2 rfl rfl ?_
  refine go_iload_n (y := mL_meanLeaning) (pc := 3) dL_meanLeaning_3 rfl rfl ?_
  refine go_callVH (y := mL_meanLeaning) (pc := 4) (y' := mX10_meanLeaning) (as := [.int (iI a1)]) (z' := 276) (d' := d) (kc' := kc) (ks' := ks) (kc2 := 0) (ks2 := 0) dL_meanLeaning_4 rfl ml_L_90 ok_X10_meanLeaning (show shp 0 = _ from rfl) ⟨_, _, rfl⟩ (by decide) rfl (Nat.le_of_ble_eq_true rfl) (by intro v hv; simp only [List.mem_cons, List.not_mem_nil, or_false] at hv; rw [hv]; rfl) (Nat.le_of_ble_eq_true rfl) (by decide) (Nat.le_refl _) (Nat.le_refl _) (Nat.le_refl _) (mt_mono K (fun r μ' h => ?_) (fun E μ' h => ?_))
  · obtain ⟨v, rfl, hQ⟩ := h
    refine go_dastore (y := mL_meanLeaning) (pc := 7) dL_meanLeaning_7 (by decide) ?_
    refine go_goto (y := mL_meanLeaning) (pc := 8) (tgt := 14) dL_meanLeaning_8 (by decide) ?_
    refine go_iconst (y := mL_meanLeaning) (pc := 14) dL_meanLeaning_14 ?_
    exact go_ireturn (y := mL_meanLeaning) (pc := 15) dL_meanLeaning_15 rfl hQ
  · obtain ⟨rfl, hQ⟩ := h
    refine ⟨11, 3, ⟨[], ⟨0, 8, 11, 24⟩, [], rfl, (fun z hz => by cases hz), by decide, by decide, lcl_24, lca_24, rfl⟩, by decide, Or.inl ⟨3, rfl, dL_meanLeaning_11, ?_⟩⟩
    refine go_iconst (y := mL_meanLeaning) (pc := 12) dL_meanLeaning_12 ?_
    exact go_ireturn (y := mL_meanLeaning) (pc := 13) dL_meanLeaning_13 rfl hQ
def mL_weightShare : MI := (yL_weightShare, cL_weightShare, 4, some .int, [(0, 9, 12, 24)], none)
theorem ok_L_weightShare : mokH mL_weightShare 3 := ⟨tb_in 1615 (by decide +kernel) (by decide +kernel), tb_in 0 (by decide +kernel) (by decide +kernel), by decide +kernel, ⟨by decide +kernel, by decide +kernel, by decide +kernel⟩, by decide, rfl, tb_in 1614 (by decide +kernel) (by decide +kernel)⟩
theorem W_weightShare {a1 : Int} (K : mt 276 d kc ks mX10_weightShare [.ref 0, .int (iI a1)] (fun r μ' => ∃ v : UInt32, r = some (.float v) ∧ vf_n64 (FP.f2d v) ∧ Q (some (.int (iI 0))) (wr (wr μ' 290 0 (dhi (FP.f2d v))) 290 1 (dlo (FP.f2d v)))) (fun E μ' => (E = "java/lang/IndexOutOfBoundsException" ∧ Q (some (.int (iI 1))) μ')) μ) : mt 291 (d + 1) kc ks mL_weightShare [.ref 0, .int (iI a1), .ref 290] Q X μ := by
  show go 291 (d + 1) kc ks mL_weightShare Q X 0 [.ref 0, .int (iI a1), .ref 290, .null] [] _
  refine go_aload_n (y := mL_weightShare) (pc := 0) dL_weightShare_0 rfl rfl ?_
  refine go_iconst (y := mL_weightShare) (pc := 1) dL_weightShare_1 ?_
  refine go_aload_n (y := mL_weightShare) (pc := 2) dL_weightShare_2 rfl rfl ?_
  refine go_iload_n (y := mL_weightShare) (pc := 3) dL_weightShare_3 rfl rfl ?_
  refine go_callVH (y := mL_weightShare) (pc := 4) (y' := mX10_weightShare) (as := [.int (iI a1)]) (z' := 276) (d' := d) (kc' := kc) (ks' := ks) (kc2 := 0) (ks2 := 0) dL_weightShare_4 rfl ml_L_94 ok_X10_weightShare (show shp 0 = _ from rfl) ⟨_, _, rfl⟩ (by decide) rfl (Nat.le_of_ble_eq_true rfl) (by intro v hv; simp only [List.mem_cons, List.not_mem_nil, or_false] at hv; rw [hv]; rfl) (Nat.le_of_ble_eq_true rfl) (by decide) (Nat.le_refl _) (Nat.le_refl _) (Nat.le_refl _) (mt_mono K (fun r μ' h => ?_) (fun E μ' h => ?_))
  · obtain ⟨v, rfl, hn, hQ⟩ := h
    refine go_f2d (y := mL_weightShare) (pc := 7) dL_weightShare_7 hn ?_
    refine go_dastore (y := mL_weightShare) (pc := 8) dL_weightShare_8 (by decide) ?_
    refine go_goto (y := mL_weightShare) (pc := 9) (tgt := 15) dL_weightShare_9 (by decide) ?_
    refine go_iconst (y := mL_weightShare) (pc := 15) dL_weightShare_15 ?_
    exact go_ireturn (y := mL_weightShare) (pc := 16) dL_weightShare_16 rfl hQ
  · obtain ⟨rfl, hQ⟩ := h
    refine ⟨12, 3, ⟨[], ⟨0, 9, 12, 24⟩, [], rfl, (fun z hz => by cases hz), by decide, by decide, lcl_24, lca_24, rfl⟩, by decide, Or.inl ⟨3, rfl, dL_weightShare_12, ?_⟩⟩
    refine go_iconst (y := mL_weightShare) (pc := 13) dL_weightShare_13 ?_
    exact go_ireturn (y := mL_weightShare) (pc := 14) dL_weightShare_14 rfl hQ
def mL_minutesUntilSpeech : MI := (yL_minutesUntilSpeech, cL_minutesUntilSpeech, 4, some .int, [(0, 9, 12, 24)], none)
theorem ok_L_minutesUntilSpeech : mokH mL_minutesUntilSpeech 3 := ⟨tb_in 1626 (by decide +kernel) (by decide +kernel), tb_in 0 (by decide +kernel) (by decide +kernel), by decide +kernel, ⟨by decide +kernel, by decide +kernel, by decide +kernel⟩, by decide, rfl, tb_in 1625 (by decide +kernel) (by decide +kernel)⟩
theorem W_minutesUntilSpeech {a1 : Int} (K : mt 276 d kc ks mX10_minutesUntilSpeech [.ref 0, .int (iI a1)] (fun r μ' => ∃ v : Int, r = some (.int (iI v)) ∧ rng v ∧ Q (some (.int (iI 0))) (wr μ' 289 0 v)) (fun E μ' => (E = "java/lang/IndexOutOfBoundsException" ∧ Q (some (.int (iI 1))) μ')) μ) : mt 291 (d + 1) kc ks mL_minutesUntilSpeech [.ref 0, .int (iI a1), .ref 289] Q X μ := by
  show go 291 (d + 1) kc ks mL_minutesUntilSpeech Q X 0 [.ref 0, .int (iI a1), .ref 289, .null] [] _
  refine go_aload_n (y := mL_minutesUntilSpeech) (pc := 0) dL_minutesUntilSpeech_0 rfl rfl ?_
  refine go_iconst (y := mL_minutesUntilSpeech) (pc := 1) dL_minutesUntilSpeech_1 ?_
  refine go_aload_n (y := mL_minutesUntilSpeech) (pc := 2) dL_minutesUntilSpeech_2 rfl rfl ?_
  refine go_iload_n (y := mL_minutesUntilSpeech) (pc := 3) dL_minutesUntilSpeech_3 rfl rfl ?_
  refine go_callVH (y := mL_minutesUntilSpeech) (pc := 4) (y' := mX10_minutesUntilSpeech) (as := [.int (iI a1)]) (z' := 276) (d' := d) (kc' := kc) (ks' := ks) (kc2 := 0) (ks2 := 0) dL_minutesUntilSpeech_4 rfl ml_L_98 ok_X10_minutesUntilSpeech (show shp 0 = _ from rfl) ⟨_, _, rfl⟩ (by decide) rfl (Nat.le_of_ble_eq_true rfl) (by intro v hv; simp only [List.mem_cons, List.not_mem_nil, or_false] at hv; rw [hv]; rfl) (Nat.le_of_ble_eq_true rfl) (by decide) (Nat.le_refl _) (Nat.le_refl _) (Nat.le_refl _) (mt_mono K (fun r μ' h => ?_) (fun E μ' h => ?_))
  · obtain ⟨v, rfl, hv, hQ⟩ := h
    refine go_i2l (y := mL_minutesUntilSpeech) (pc := 7) dL_minutesUntilSpeech_7 ?_
    refine go_lastore (y := mL_minutesUntilSpeech) (pc := 8) dL_minutesUntilSpeech_8 (by decide) hv ?_
    refine go_goto (y := mL_minutesUntilSpeech) (pc := 9) (tgt := 15) dL_minutesUntilSpeech_9 (by decide) ?_
    refine go_iconst (y := mL_minutesUntilSpeech) (pc := 15) dL_minutesUntilSpeech_15 ?_
    exact go_ireturn (y := mL_minutesUntilSpeech) (pc := 16) dL_minutesUntilSpeech_16 rfl hQ
  · obtain ⟨rfl, hQ⟩ := h
    refine ⟨12, 3, ⟨[], ⟨0, 9, 12, 24⟩, [], rfl, (fun z hz => by cases hz), by decide, by decide, lcl_24, lca_24, rfl⟩, by decide, Or.inl ⟨3, rfl, dL_minutesUntilSpeech_12, ?_⟩⟩
    refine go_iconst (y := mL_minutesUntilSpeech) (pc := 13) dL_minutesUntilSpeech_13 ?_
    exact go_ireturn (y := mL_minutesUntilSpeech) (pc := 14) dL_minutesUntilSpeech_14 rfl hQ
def mL_latherAfter : MI := (yL_latherAfter, cL_latherAfter, 5, some .int, [(0, 10, 13, 24), (0, 10, 17, 19)], none)
theorem ok_L_latherAfter : mokH mL_latherAfter 4 := ⟨tb_in 1635 (by decide +kernel) (by decide +kernel), tb_in 0 (by decide +kernel) (by decide +kernel), by decide +kernel, ⟨by decide +kernel, by decide +kernel, by decide +kernel⟩, by decide, rfl, tb_in 1634 (by decide +kernel) (by decide +kernel)⟩
theorem W_latherAfter {a1 a2 : Int} (K : mt 276 d kc ks mX10_latherAfter [.ref 0, .int (iI a1), .int (iI a2)] (fun r μ' => ∃ v : Int, r = some (.int (iI v)) ∧ rng v ∧ Q (some (.int (iI 0))) (wr μ' 289 0 v)) (fun E μ' => (E = "java/lang/IndexOutOfBoundsException" ∧ Q (some (.int (iI 1))) μ') ∨ (E = "java/lang/IllegalArgumentException" ∧ Q (some (.int (iI 2))) μ')) μ) : mt 291 (d + 1) kc ks mL_latherAfter [.ref 0, .int (iI a1), .int (iI a2), .ref 289] Q X μ := by
  show go 291 (d + 1) kc ks mL_latherAfter Q X 0 [.ref 0, .int (iI a1), .int (iI a2), .ref 289, .null] [] _
  refine go_aload_n (y := mL_latherAfter) (pc := 0) dL_latherAfter_0 rfl rfl ?_
  refine go_iconst (y := mL_latherAfter) (pc := 1) dL_latherAfter_1 ?_
  refine go_aload_n (y := mL_latherAfter) (pc := 2) dL_latherAfter_2 rfl rfl ?_
  refine go_iload_n (y := mL_latherAfter) (pc := 3) dL_latherAfter_3 rfl rfl ?_
  refine go_iload_n (y := mL_latherAfter) (pc := 4) dL_latherAfter_4 rfl rfl ?_
  refine go_callVH (y := mL_latherAfter) (pc := 5) (y' := mX10_latherAfter) (as := [.int (iI a1), .int (iI a2)]) (z' := 276) (d' := d) (kc' := kc) (ks' := ks) (kc2 := 0) (ks2 := 0) dL_latherAfter_5 rfl ml_L_101 ok_X10_latherAfter (show shp 0 = _ from rfl) ⟨_, _, rfl⟩ (by decide) rfl (Nat.le_of_ble_eq_true rfl) (by intro v hv; simp only [List.mem_cons, List.not_mem_nil, or_false] at hv; rcases hv with rfl | rfl <;> rfl) (Nat.le_of_ble_eq_true rfl) (by decide) (Nat.le_refl _) (Nat.le_refl _) (Nat.le_refl _) (mt_mono K (fun r μ' h => ?_) (fun E μ' h => ?_))
  · obtain ⟨v, rfl, hv, hQ⟩ := h
    refine go_i2l (y := mL_latherAfter) (pc := 8) dL_latherAfter_8 ?_
    refine go_lastore (y := mL_latherAfter) (pc := 9) dL_latherAfter_9 (by decide) hv ?_
    refine go_goto (y := mL_latherAfter) (pc := 10) (tgt := 21) dL_latherAfter_10 (by decide) ?_
    refine go_iconst (y := mL_latherAfter) (pc := 21) dL_latherAfter_21 ?_
    exact go_ireturn (y := mL_latherAfter) (pc := 22) dL_latherAfter_22 rfl hQ
  · rcases h with ⟨rfl, hQ⟩ | ⟨rfl, hQ⟩
    · refine ⟨13, 4, ⟨[], ⟨0, 10, 13, 24⟩, [⟨0, 10, 17, 19⟩], rfl, (fun z hz => by cases hz), by decide, by decide, lcl_24, lca_24, rfl⟩, by decide, Or.inr ⟨dL_latherAfter_13, ?_⟩⟩
      refine go_iconst (y := mL_latherAfter) (pc := 15) dL_latherAfter_15 ?_
      exact go_ireturn (y := mL_latherAfter) (pc := 16) dL_latherAfter_16 rfl hQ
    · refine ⟨17, 4, ⟨[⟨0, 10, 13, 24⟩], ⟨0, 10, 17, 19⟩, [], rfl, (fun z hz => by simp only [List.mem_cons, List.not_mem_nil, or_false] at hz; rcases hz with rfl <;> first | exact Or.inr ⟨by decide, _, lcl_24, by decide +kernel⟩), by decide, by decide, lcl_19, lca_19, rfl⟩, by decide, Or.inr ⟨dL_latherAfter_17, ?_⟩⟩
      refine go_iconst (y := mL_latherAfter) (pc := 19) dL_latherAfter_19 ?_
      exact go_ireturn (y := mL_latherAfter) (pc := 20) dL_latherAfter_20 rfl hQ
def mL_minutesUntilVote : MI := (yL_minutesUntilVote, cL_minutesUntilVote, 4, some .int, [(0, 9, 12, 24)], none)
theorem ok_L_minutesUntilVote : mokH mL_minutesUntilVote 3 := ⟨tb_in 1643 (by decide +kernel) (by decide +kernel), tb_in 0 (by decide +kernel) (by decide +kernel), by decide +kernel, ⟨by decide +kernel, by decide +kernel, by decide +kernel⟩, by decide, rfl, tb_in 1642 (by decide +kernel) (by decide +kernel)⟩
theorem W_minutesUntilVote {a1 : Int} (K : mt 276 d kc ks mX10_minutesUntilVote [.ref 0, .int (iI a1)] (fun r μ' => ∃ v : Int, r = some (.int (iI v)) ∧ rng v ∧ Q (some (.int (iI 0))) (wr μ' 289 0 v)) (fun E μ' => (E = "java/lang/IndexOutOfBoundsException" ∧ Q (some (.int (iI 1))) μ')) μ) : mt 291 (d + 1) kc ks mL_minutesUntilVote [.ref 0, .int (iI a1), .ref 289] Q X μ := by
  show go 291 (d + 1) kc ks mL_minutesUntilVote Q X 0 [.ref 0, .int (iI a1), .ref 289, .null] [] _
  refine go_aload_n (y := mL_minutesUntilVote) (pc := 0) dL_minutesUntilVote_0 rfl rfl ?_
  refine go_iconst (y := mL_minutesUntilVote) (pc := 1) dL_minutesUntilVote_1 ?_
  refine go_aload_n (y := mL_minutesUntilVote) (pc := 2) dL_minutesUntilVote_2 rfl rfl ?_
  refine go_iload_n (y := mL_minutesUntilVote) (pc := 3) dL_minutesUntilVote_3 rfl rfl ?_
  refine go_callVH (y := mL_minutesUntilVote) (pc := 4) (y' := mX10_minutesUntilVote) (as := [.int (iI a1)]) (z' := 276) (d' := d) (kc' := kc) (ks' := ks) (kc2 := 0) (ks2 := 0) dL_minutesUntilVote_4 rfl ml_L_104 ok_X10_minutesUntilVote (show shp 0 = _ from rfl) ⟨_, _, rfl⟩ (by decide) rfl (Nat.le_of_ble_eq_true rfl) (by intro v hv; simp only [List.mem_cons, List.not_mem_nil, or_false] at hv; rw [hv]; rfl) (Nat.le_of_ble_eq_true rfl) (by decide) (Nat.le_refl _) (Nat.le_refl _) (Nat.le_refl _) (mt_mono K (fun r μ' h => ?_) (fun E μ' h => ?_))
  · obtain ⟨v, rfl, hv, hQ⟩ := h
    refine go_i2l (y := mL_minutesUntilVote) (pc := 7) dL_minutesUntilVote_7 ?_
    refine go_lastore (y := mL_minutesUntilVote) (pc := 8) dL_minutesUntilVote_8 (by decide) hv ?_
    refine go_goto (y := mL_minutesUntilVote) (pc := 9) (tgt := 15) dL_minutesUntilVote_9 (by decide) ?_
    refine go_iconst (y := mL_minutesUntilVote) (pc := 15) dL_minutesUntilVote_15 ?_
    exact go_ireturn (y := mL_minutesUntilVote) (pc := 16) dL_minutesUntilVote_16 rfl hQ
  · obtain ⟨rfl, hQ⟩ := h
    refine ⟨12, 3, ⟨[], ⟨0, 9, 12, 24⟩, [], rfl, (fun z hz => by cases hz), by decide, by decide, lcl_24, lca_24, rfl⟩, by decide, Or.inl ⟨3, rfl, dL_minutesUntilVote_12, ?_⟩⟩
    refine go_iconst (y := mL_minutesUntilVote) (pc := 13) dL_minutesUntilVote_13 ?_
    exact go_ireturn (y := mL_minutesUntilVote) (pc := 14) dL_minutesUntilVote_14 rfl hQ
def mL_propose : MI := (yL_propose, cL_propose, 5, some .int, [(0, 10, 13, 24), (0, 10, 17, 19), (0, 10, 21, 13)], none)
theorem ok_L_propose : mokH mL_propose 4 := ⟨tb_in 1650 (by decide +kernel) (by decide +kernel), tb_in 0 (by decide +kernel) (by decide +kernel), by decide +kernel, ⟨by decide +kernel, by decide +kernel, by decide +kernel⟩, by decide, rfl, tb_in 1649 (by decide +kernel) (by decide +kernel)⟩
theorem W_propose {a1 a2 : Int} (K : mt 276 d kc ks mX10_propose [.ref 0, .int (iI a1), .int (iI a2)] (fun r μ' => ∃ v : Int, r = some (.int (iI v)) ∧ rng v ∧ Q (some (.int (iI 0))) (wr μ' 289 0 v)) (fun E μ' => (E = "java/lang/IndexOutOfBoundsException" ∧ Q (some (.int (iI 1))) μ') ∨ (E = "java/lang/IllegalArgumentException" ∧ Q (some (.int (iI 2))) μ') ∨ (E = "java/lang/IllegalStateException" ∧ Q (some (.int (iI 3))) μ')) μ) : mt 291 (d + 1) kc ks mL_propose [.ref 0, .int (iI a1), .int (iI a2), .ref 289] Q X μ := by
  show go 291 (d + 1) kc ks mL_propose Q X 0 [.ref 0, .int (iI a1), .int (iI a2), .ref 289, .null] [] _
  refine go_aload_n (y := mL_propose) (pc := 0) dL_propose_0 rfl rfl ?_
  refine go_iconst (y := mL_propose) (pc := 1) dL_propose_1 ?_
  refine go_aload_n (y := mL_propose) (pc := 2) dL_propose_2 rfl rfl ?_
  refine go_iload_n (y := mL_propose) (pc := 3) dL_propose_3 rfl rfl ?_
  refine go_iload_n (y := mL_propose) (pc := 4) dL_propose_4 rfl rfl ?_
  refine go_callVH (y := mL_propose) (pc := 5) (y' := mX10_propose) (as := [.int (iI a1), .int (iI a2)]) (z' := 276) (d' := d) (kc' := kc) (ks' := ks) (kc2 := 0) (ks2 := 0) dL_propose_5 rfl ml_L_107 ok_X10_propose (show shp 0 = _ from rfl) ⟨_, _, rfl⟩ (by decide) rfl (Nat.le_of_ble_eq_true rfl) (by intro v hv; simp only [List.mem_cons, List.not_mem_nil, or_false] at hv; rcases hv with rfl | rfl <;> rfl) (Nat.le_of_ble_eq_true rfl) (by decide) (Nat.le_refl _) (Nat.le_refl _) (Nat.le_refl _) (mt_mono K (fun r μ' h => ?_) (fun E μ' h => ?_))
  · obtain ⟨v, rfl, hv, hQ⟩ := h
    refine go_i2l (y := mL_propose) (pc := 8) dL_propose_8 ?_
    refine go_lastore (y := mL_propose) (pc := 9) dL_propose_9 (by decide) hv ?_
    refine go_goto (y := mL_propose) (pc := 10) (tgt := 25) dL_propose_10 (by decide) ?_
    refine go_iconst (y := mL_propose) (pc := 25) dL_propose_25 ?_
    exact go_ireturn (y := mL_propose) (pc := 26) dL_propose_26 rfl hQ
  · rcases h with ⟨rfl, hQ⟩ | ⟨rfl, hQ⟩ | ⟨rfl, hQ⟩
    · refine ⟨13, 4, ⟨[], ⟨0, 10, 13, 24⟩, [⟨0, 10, 17, 19⟩, ⟨0, 10, 21, 13⟩], rfl, (fun z hz => by cases hz), by decide, by decide, lcl_24, lca_24, rfl⟩, by decide, Or.inr ⟨dL_propose_13, ?_⟩⟩
      refine go_iconst (y := mL_propose) (pc := 15) dL_propose_15 ?_
      exact go_ireturn (y := mL_propose) (pc := 16) dL_propose_16 rfl hQ
    · refine ⟨17, 4, ⟨[⟨0, 10, 13, 24⟩], ⟨0, 10, 17, 19⟩, [⟨0, 10, 21, 13⟩], rfl, (fun z hz => by simp only [List.mem_cons, List.not_mem_nil, or_false] at hz; rcases hz with rfl <;> first | exact Or.inr ⟨by decide, _, lcl_24, by decide +kernel⟩), by decide, by decide, lcl_19, lca_19, rfl⟩, by decide, Or.inr ⟨dL_propose_17, ?_⟩⟩
      refine go_iconst (y := mL_propose) (pc := 19) dL_propose_19 ?_
      exact go_ireturn (y := mL_propose) (pc := 20) dL_propose_20 rfl hQ
    · refine ⟨21, 4, ⟨[⟨0, 10, 13, 24⟩, ⟨0, 10, 17, 19⟩], ⟨0, 10, 21, 13⟩, [], rfl, (fun z hz => by simp only [List.mem_cons, List.not_mem_nil, or_false] at hz; rcases hz with rfl | rfl <;> first | exact Or.inr ⟨by decide, _, lcl_24, by decide +kernel⟩ | exact Or.inr ⟨by decide, _, lcl_19, by decide +kernel⟩), by decide, by decide, lcl_13, lca_13, rfl⟩, by decide, Or.inr ⟨dL_propose_21, ?_⟩⟩
      refine go_iconst (y := mL_propose) (pc := 23) dL_propose_23 ?_
      exact go_ireturn (y := mL_propose) (pc := 24) dL_propose_24 rfl hQ
def mL_request : MI := (yL_request, cL_request, 6, some .int, [(0, 12, 15, 24), (0, 12, 19, 13)], none)
theorem ok_L_request : mokH mL_request 5 := ⟨tb_in 1659 (by decide +kernel) (by decide +kernel), tb_in 0 (by decide +kernel) (by decide +kernel), by decide +kernel, ⟨by decide +kernel, by decide +kernel, by decide +kernel⟩, by decide, rfl, tb_in 1658 (by decide +kernel) (by decide +kernel)⟩
theorem W_request {a1 a2 a3 : Int} (K : mt 276 d kc ks mX10_request [.ref 0, .int (iI a1), .int (iI a2), .int (iI a3)] (fun r μ' => ∃ v : Int, r = some (.int (iI v)) ∧ rng v ∧ Q (some (.int (iI 0))) (wr μ' 289 0 v)) (fun E μ' => (E = "java/lang/IndexOutOfBoundsException" ∧ Q (some (.int (iI 1))) μ') ∨ (E = "java/lang/IllegalStateException" ∧ Q (some (.int (iI 2))) μ')) μ) : mt 291 (d + 1) kc ks mL_request [.ref 0, .int (iI a1), .int (iI a2), .int (iI a3), .ref 289] Q X μ := by
  show go 291 (d + 1) kc ks mL_request Q X 0 [.ref 0, .int (iI a1), .int (iI a2), .int (iI a3), .ref 289, .null] [] _
  refine go_aload (y := mL_request) (pc := 0) dL_request_0 rfl ?_
  refine go_iconst (y := mL_request) (pc := 2) dL_request_2 ?_
  refine go_aload_n (y := mL_request) (pc := 3) dL_request_3 rfl rfl ?_
  refine go_iload_n (y := mL_request) (pc := 4) dL_request_4 rfl rfl ?_
  refine go_iload_n (y := mL_request) (pc := 5) dL_request_5 rfl rfl ?_
  refine go_iload_n (y := mL_request) (pc := 6) dL_request_6 rfl rfl ?_
  refine go_callVH (y := mL_request) (pc := 7) (y' := mX10_request) (as := [.int (iI a1), .int (iI a2), .int (iI a3)]) (z' := 276) (d' := d) (kc' := kc) (ks' := ks) (kc2 := 0) (ks2 := 0) dL_request_7 rfl ml_L_110 ok_X10_request (show shp 0 = _ from rfl) ⟨_, _, rfl⟩ (by decide) rfl (Nat.le_of_ble_eq_true rfl) (by intro v hv; simp only [List.mem_cons, List.not_mem_nil, or_false] at hv; rcases hv with rfl | rfl | rfl <;> rfl) (Nat.le_of_ble_eq_true rfl) (by decide) (Nat.le_refl _) (Nat.le_refl _) (Nat.le_refl _) (mt_mono K (fun r μ' h => ?_) (fun E μ' h => ?_))
  · obtain ⟨v, rfl, hv, hQ⟩ := h
    refine go_i2l (y := mL_request) (pc := 10) dL_request_10 ?_
    refine go_lastore (y := mL_request) (pc := 11) dL_request_11 (by decide) hv ?_
    refine go_goto (y := mL_request) (pc := 12) (tgt := 23) dL_request_12 (by decide) ?_
    refine go_iconst (y := mL_request) (pc := 23) dL_request_23 ?_
    exact go_ireturn (y := mL_request) (pc := 24) dL_request_24 rfl hQ
  · rcases h with ⟨rfl, hQ⟩ | ⟨rfl, hQ⟩
    · refine ⟨15, 5, ⟨[], ⟨0, 12, 15, 24⟩, [⟨0, 12, 19, 13⟩], rfl, (fun z hz => by cases hz), by decide, by decide, lcl_24, lca_24, rfl⟩, by decide, Or.inr ⟨dL_request_15, ?_⟩⟩
      refine go_iconst (y := mL_request) (pc := 17) dL_request_17 ?_
      exact go_ireturn (y := mL_request) (pc := 18) dL_request_18 rfl hQ
    · refine ⟨19, 5, ⟨[⟨0, 12, 15, 24⟩], ⟨0, 12, 19, 13⟩, [], rfl, (fun z hz => by simp only [List.mem_cons, List.not_mem_nil, or_false] at hz; rcases hz with rfl <;> first | exact Or.inr ⟨by decide, _, lcl_24, by decide +kernel⟩), by decide, by decide, lcl_13, lca_13, rfl⟩, by decide, Or.inr ⟨dL_request_19, ?_⟩⟩
      refine go_iconst (y := mL_request) (pc := 21) dL_request_21 ?_
      exact go_ireturn (y := mL_request) (pc := 22) dL_request_22 rfl hQ
def mL_rebut : MI := (yL_rebut, cL_rebut, 5, some .int, [(0, 10, 13, 24), (0, 10, 17, 13)], none)
theorem ok_L_rebut : mokH mL_rebut 4 := ⟨tb_in 1668 (by decide +kernel) (by decide +kernel), tb_in 0 (by decide +kernel) (by decide +kernel), by decide +kernel, ⟨by decide +kernel, by decide +kernel, by decide +kernel⟩, by decide, rfl, tb_in 1667 (by decide +kernel) (by decide +kernel)⟩
theorem W_rebut {a1 a2 : Int} (K : mt 276 d kc ks mX10_rebut [.ref 0, .int (iI a1), .int (iI a2)] (fun r μ' => ∃ v : Int, r = some (.int (iI v)) ∧ rng v ∧ Q (some (.int (iI 0))) (wr μ' 289 0 v)) (fun E μ' => (E = "java/lang/IndexOutOfBoundsException" ∧ Q (some (.int (iI 1))) μ') ∨ (E = "java/lang/IllegalStateException" ∧ Q (some (.int (iI 2))) μ')) μ) : mt 291 (d + 1) kc ks mL_rebut [.ref 0, .int (iI a1), .int (iI a2), .ref 289] Q X μ := by
  show go 291 (d + 1) kc ks mL_rebut Q X 0 [.ref 0, .int (iI a1), .int (iI a2), .ref 289, .null] [] _
  refine go_aload_n (y := mL_rebut) (pc := 0) dL_rebut_0 rfl rfl ?_
  refine go_iconst (y := mL_rebut) (pc := 1) dL_rebut_1 ?_
  refine go_aload_n (y := mL_rebut) (pc := 2) dL_rebut_2 rfl rfl ?_
  refine go_iload_n (y := mL_rebut) (pc := 3) dL_rebut_3 rfl rfl ?_
  refine go_iload_n (y := mL_rebut) (pc := 4) dL_rebut_4 rfl rfl ?_
  refine go_callVH (y := mL_rebut) (pc := 5) (y' := mX10_rebut) (as := [.int (iI a1), .int (iI a2)]) (z' := 276) (d' := d) (kc' := kc) (ks' := ks) (kc2 := 0) (ks2 := 0) dL_rebut_5 rfl ml_L_114 ok_X10_rebut (show shp 0 = _ from rfl) ⟨_, _, rfl⟩ (by decide) rfl (Nat.le_of_ble_eq_true rfl) (by intro v hv; simp only [List.mem_cons, List.not_mem_nil, or_false] at hv; rcases hv with rfl | rfl <;> rfl) (Nat.le_of_ble_eq_true rfl) (by decide) (Nat.le_refl _) (Nat.le_refl _) (Nat.le_refl _) (mt_mono K (fun r μ' h => ?_) (fun E μ' h => ?_))
  · obtain ⟨v, rfl, hv, hQ⟩ := h
    refine go_i2l (y := mL_rebut) (pc := 8) dL_rebut_8 ?_
    refine go_lastore (y := mL_rebut) (pc := 9) dL_rebut_9 (by decide) hv ?_
    refine go_goto (y := mL_rebut) (pc := 10) (tgt := 21) dL_rebut_10 (by decide) ?_
    refine go_iconst (y := mL_rebut) (pc := 21) dL_rebut_21 ?_
    exact go_ireturn (y := mL_rebut) (pc := 22) dL_rebut_22 rfl hQ
  · rcases h with ⟨rfl, hQ⟩ | ⟨rfl, hQ⟩
    · refine ⟨13, 4, ⟨[], ⟨0, 10, 13, 24⟩, [⟨0, 10, 17, 13⟩], rfl, (fun z hz => by cases hz), by decide, by decide, lcl_24, lca_24, rfl⟩, by decide, Or.inr ⟨dL_rebut_13, ?_⟩⟩
      refine go_iconst (y := mL_rebut) (pc := 15) dL_rebut_15 ?_
      exact go_ireturn (y := mL_rebut) (pc := 16) dL_rebut_16 rfl hQ
    · refine ⟨17, 4, ⟨[⟨0, 10, 13, 24⟩], ⟨0, 10, 17, 13⟩, [], rfl, (fun z hz => by simp only [List.mem_cons, List.not_mem_nil, or_false] at hz; rcases hz with rfl <;> first | exact Or.inr ⟨by decide, _, lcl_24, by decide +kernel⟩), by decide, by decide, lcl_13, lca_13, rfl⟩, by decide, Or.inr ⟨dL_rebut_17, ?_⟩⟩
      refine go_iconst (y := mL_rebut) (pc := 19) dL_rebut_19 ?_
      exact go_ireturn (y := mL_rebut) (pc := 20) dL_rebut_20 rfl hQ
def mL_advance : MI := (yL_advance, cL_advance, 4, some .int, [(0, 9, 12, 19), (0, 9, 15, 13)], none)
theorem ok_L_advance : mokH mL_advance 3 := ⟨tb_in 1677 (by decide +kernel) (by decide +kernel), tb_in 0 (by decide +kernel) (by decide +kernel), by decide +kernel, ⟨by decide +kernel, by decide +kernel, by decide +kernel⟩, by decide, rfl, tb_in 1676 (by decide +kernel) (by decide +kernel)⟩
theorem W_advance {a1 : Int} (K : mt 276 d kc ks mX10_advance [.ref 0, .int (iI a1)] (fun r μ' => ∃ v : Int, r = some (.int (iI v)) ∧ rng v ∧ Q (some (.int (iI 0))) (wr μ' 289 0 v)) (fun E μ' => (E = "java/lang/IllegalArgumentException" ∧ Q (some (.int (iI 1))) μ') ∨ (E = "java/lang/IllegalStateException" ∧ Q (some (.int (iI 2))) μ')) μ) : mt 291 (d + 1) kc ks mL_advance [.ref 0, .int (iI a1), .ref 289] Q X μ := by
  show go 291 (d + 1) kc ks mL_advance Q X 0 [.ref 0, .int (iI a1), .ref 289, .null] [] _
  refine go_aload_n (y := mL_advance) (pc := 0) dL_advance_0 rfl rfl ?_
  refine go_iconst (y := mL_advance) (pc := 1) dL_advance_1 ?_
  refine go_aload_n (y := mL_advance) (pc := 2) dL_advance_2 rfl rfl ?_
  refine go_iload_n (y := mL_advance) (pc := 3) dL_advance_3 rfl rfl ?_
  refine go_callVH (y := mL_advance) (pc := 4) (y' := mX10_advance) (as := [.int (iI a1)]) (z' := 276) (d' := d) (kc' := kc) (ks' := ks) (kc2 := 0) (ks2 := 0) dL_advance_4 rfl ml_L_117 ok_X10_advance (show shp 0 = _ from rfl) ⟨_, _, rfl⟩ (by decide) rfl (Nat.le_of_ble_eq_true rfl) (by intro v hv; simp only [List.mem_cons, List.not_mem_nil, or_false] at hv; rw [hv]; rfl) (Nat.le_of_ble_eq_true rfl) (by decide) (Nat.le_refl _) (Nat.le_refl _) (Nat.le_refl _) (mt_mono K (fun r μ' h => ?_) (fun E μ' h => ?_))
  · obtain ⟨v, rfl, hv, hQ⟩ := h
    refine go_i2l (y := mL_advance) (pc := 7) dL_advance_7 ?_
    refine go_lastore (y := mL_advance) (pc := 8) dL_advance_8 (by decide) hv ?_
    refine go_goto (y := mL_advance) (pc := 9) (tgt := 18) dL_advance_9 (by decide) ?_
    refine go_iconst (y := mL_advance) (pc := 18) dL_advance_18 ?_
    exact go_ireturn (y := mL_advance) (pc := 19) dL_advance_19 rfl hQ
  · rcases h with ⟨rfl, hQ⟩ | ⟨rfl, hQ⟩
    · refine ⟨12, 3, ⟨[], ⟨0, 9, 12, 19⟩, [⟨0, 9, 15, 13⟩], rfl, (fun z hz => by cases hz), by decide, by decide, lcl_19, lca_19, rfl⟩, by decide, Or.inl ⟨3, rfl, dL_advance_12, ?_⟩⟩
      refine go_iconst (y := mL_advance) (pc := 13) dL_advance_13 ?_
      exact go_ireturn (y := mL_advance) (pc := 14) dL_advance_14 rfl hQ
    · refine ⟨15, 3, ⟨[⟨0, 9, 12, 19⟩], ⟨0, 9, 15, 13⟩, [], rfl, (fun z hz => by simp only [List.mem_cons, List.not_mem_nil, or_false] at hz; rcases hz with rfl <;> first | exact Or.inr ⟨by decide, _, lcl_19, by decide +kernel⟩), by decide, by decide, lcl_13, lca_13, rfl⟩, by decide, Or.inl ⟨3, rfl, dL_advance_15, ?_⟩⟩
      refine go_iconst (y := mL_advance) (pc := 16) dL_advance_16 ?_
      exact go_ireturn (y := mL_advance) (pc := 17) dL_advance_17 rfl hQ
def mL_vote : MI := (yL_vote, cL_vote, 4, some .int, [(0, 16, 19, 24), (0, 16, 22, 13)], none)
theorem ok_L_vote : mokH mL_vote 3 := ⟨tb_in 1686 (by decide +kernel) (by decide +kernel), tb_in 0 (by decide +kernel) (by decide +kernel), by decide +kernel, ⟨by decide +kernel, by decide +kernel, by decide +kernel⟩, by decide, rfl, tb_in 1685 (by decide +kernel) (by decide +kernel)⟩
theorem W_vote {a1 : Int} (K : mt 276 d kc ks mX10_vote [.ref 0, .int (iI a1)] (fun r μ' => ∃ v : Int, r = some (.int (iI v)) ∧ (v = 0 ∨ v = 1) ∧ Q (some (.int (iI 0))) (wr μ' 289 0 v)) (fun E μ' => (E = "java/lang/IndexOutOfBoundsException" ∧ Q (some (.int (iI 1))) μ') ∨ (E = "java/lang/IllegalStateException" ∧ Q (some (.int (iI 2))) μ')) μ) : mt 291 (d + 1) kc ks mL_vote [.ref 0, .int (iI a1), .ref 289] Q X μ := by
  show go 291 (d + 1) kc ks mL_vote Q X 0 [.ref 0, .int (iI a1), .ref 289, .null] [] _
  refine go_aload_n (y := mL_vote) (pc := 0) dL_vote_0 rfl rfl ?_
  refine go_iconst (y := mL_vote) (pc := 1) dL_vote_1 ?_
  refine go_aload_n (y := mL_vote) (pc := 2) dL_vote_2 rfl rfl ?_
  refine go_iload_n (y := mL_vote) (pc := 3) dL_vote_3 rfl rfl ?_
  refine go_callVH (y := mL_vote) (pc := 4) (y' := mX10_vote) (as := [.int (iI a1)]) (z' := 276) (d' := d) (kc' := kc) (ks' := ks) (kc2 := 0) (ks2 := 0) dL_vote_4 rfl ml_L_120 ok_X10_vote (show shp 0 = _ from rfl) ⟨_, _, rfl⟩ (by decide) rfl (Nat.le_of_ble_eq_true rfl) (by intro v hv; simp only [List.mem_cons, List.not_mem_nil, or_false] at hv; rw [hv]; rfl) (Nat.le_of_ble_eq_true rfl) (by decide) (Nat.le_refl _) (Nat.le_refl _) (Nat.le_refl _) (mt_mono K (fun r μ' h => ?_) (fun E μ' h => ?_))
  · obtain ⟨v, rfl, hv, hQ⟩ := h
    refine go_if_eq (y := mL_vote) (pc := 7) (tgt := 14) dL_vote_7 (by decide) (by unfold rng; omega) (fun h9 => ?_) (fun h9 => ?_)
    · rw [h9] at hQ
      refine go_lconst0 (y := mL_vote) (pc := 14) dL_vote_14 ?_
      refine go_lastore (y := mL_vote) (pc := 15) dL_vote_15 (by decide) (by decide) ?_
      refine go_goto (y := mL_vote) (pc := 16) (tgt := 25) dL_vote_16 (by decide) ?_
      refine go_iconst (y := mL_vote) (pc := 25) dL_vote_25 ?_
      exact go_ireturn (y := mL_vote) (pc := 26) dL_vote_26 rfl hQ
    · rw [show v = 1 by omega] at hQ
      refine go_lconst1 (y := mL_vote) (pc := 10) dL_vote_10 ?_
      refine go_goto (y := mL_vote) (pc := 11) (tgt := 15) dL_vote_11 (by decide) ?_
      refine go_lastore (y := mL_vote) (pc := 15) dL_vote_15 (by decide) (by decide) ?_
      refine go_goto (y := mL_vote) (pc := 16) (tgt := 25) dL_vote_16 (by decide) ?_
      refine go_iconst (y := mL_vote) (pc := 25) dL_vote_25 ?_
      exact go_ireturn (y := mL_vote) (pc := 26) dL_vote_26 rfl hQ
  · rcases h with ⟨rfl, hQ⟩ | ⟨rfl, hQ⟩
    · refine ⟨19, 3, ⟨[], ⟨0, 16, 19, 24⟩, [⟨0, 16, 22, 13⟩], rfl, (fun z hz => by cases hz), by decide, by decide, lcl_24, lca_24, rfl⟩, by decide, Or.inl ⟨3, rfl, dL_vote_19, ?_⟩⟩
      refine go_iconst (y := mL_vote) (pc := 20) dL_vote_20 ?_
      exact go_ireturn (y := mL_vote) (pc := 21) dL_vote_21 rfl hQ
    · refine ⟨22, 3, ⟨[⟨0, 16, 19, 24⟩], ⟨0, 16, 22, 13⟩, [], rfl, (fun z hz => by simp only [List.mem_cons, List.not_mem_nil, or_false] at hz; rcases hz with rfl <;> first | exact Or.inr ⟨by decide, _, lcl_24, by decide +kernel⟩), by decide, by decide, lcl_13, lca_13, rfl⟩, by decide, Or.inl ⟨3, rfl, dL_vote_22, ?_⟩⟩
      refine go_iconst (y := mL_vote) (pc := 23) dL_vote_23 ?_
      exact go_ireturn (y := mL_vote) (pc := 24) dL_vote_24 rfl hQ
def mL_withdraw : MI := (yL_withdraw, cL_withdraw, 4, some .int, [(0, 9, 12, 24), (0, 9, 15, 13)], none)
theorem ok_L_withdraw : mokH mL_withdraw 3 := ⟨tb_in 1695 (by decide +kernel) (by decide +kernel), tb_in 0 (by decide +kernel) (by decide +kernel), by decide +kernel, ⟨by decide +kernel, by decide +kernel, by decide +kernel⟩, by decide, rfl, tb_in 1694 (by decide +kernel) (by decide +kernel)⟩
theorem W_withdraw {a1 : Int} (K : mt 276 d kc ks mX10_withdraw [.ref 0, .int (iI a1)] (fun r μ' => ∃ v : Int, r = some (.int (iI v)) ∧ rng v ∧ Q (some (.int (iI 0))) (wr μ' 289 0 v)) (fun E μ' => (E = "java/lang/IndexOutOfBoundsException" ∧ Q (some (.int (iI 1))) μ') ∨ (E = "java/lang/IllegalStateException" ∧ Q (some (.int (iI 2))) μ')) μ) : mt 291 (d + 1) kc ks mL_withdraw [.ref 0, .int (iI a1), .ref 289] Q X μ := by
  show go 291 (d + 1) kc ks mL_withdraw Q X 0 [.ref 0, .int (iI a1), .ref 289, .null] [] _
  refine go_aload_n (y := mL_withdraw) (pc := 0) dL_withdraw_0 rfl rfl ?_
  refine go_iconst (y := mL_withdraw) (pc := 1) dL_withdraw_1 ?_
  refine go_aload_n (y := mL_withdraw) (pc := 2) dL_withdraw_2 rfl rfl ?_
  refine go_iload_n (y := mL_withdraw) (pc := 3) dL_withdraw_3 rfl rfl ?_
  refine go_callVH (y := mL_withdraw) (pc := 4) (y' := mX10_withdraw) (as := [.int (iI a1)]) (z' := 276) (d' := d) (kc' := kc) (ks' := ks) (kc2 := 0) (ks2 := 0) dL_withdraw_4 rfl ml_L_123 ok_X10_withdraw (show shp 0 = _ from rfl) ⟨_, _, rfl⟩ (by decide) rfl (Nat.le_of_ble_eq_true rfl) (by intro v hv; simp only [List.mem_cons, List.not_mem_nil, or_false] at hv; rw [hv]; rfl) (Nat.le_of_ble_eq_true rfl) (by decide) (Nat.le_refl _) (Nat.le_refl _) (Nat.le_refl _) (mt_mono K (fun r μ' h => ?_) (fun E μ' h => ?_))
  · obtain ⟨v, rfl, hv, hQ⟩ := h
    refine go_i2l (y := mL_withdraw) (pc := 7) dL_withdraw_7 ?_
    refine go_lastore (y := mL_withdraw) (pc := 8) dL_withdraw_8 (by decide) hv ?_
    refine go_goto (y := mL_withdraw) (pc := 9) (tgt := 18) dL_withdraw_9 (by decide) ?_
    refine go_iconst (y := mL_withdraw) (pc := 18) dL_withdraw_18 ?_
    exact go_ireturn (y := mL_withdraw) (pc := 19) dL_withdraw_19 rfl hQ
  · rcases h with ⟨rfl, hQ⟩ | ⟨rfl, hQ⟩
    · refine ⟨12, 3, ⟨[], ⟨0, 9, 12, 24⟩, [⟨0, 9, 15, 13⟩], rfl, (fun z hz => by cases hz), by decide, by decide, lcl_24, lca_24, rfl⟩, by decide, Or.inl ⟨3, rfl, dL_withdraw_12, ?_⟩⟩
      refine go_iconst (y := mL_withdraw) (pc := 13) dL_withdraw_13 ?_
      exact go_ireturn (y := mL_withdraw) (pc := 14) dL_withdraw_14 rfl hQ
    · refine ⟨15, 3, ⟨[⟨0, 9, 12, 24⟩], ⟨0, 9, 15, 13⟩, [], rfl, (fun z hz => by simp only [List.mem_cons, List.not_mem_nil, or_false] at hz; rcases hz with rfl <;> first | exact Or.inr ⟨by decide, _, lcl_24, by decide +kernel⟩), by decide, by decide, lcl_13, lca_13, rfl⟩, by decide, Or.inl ⟨3, rfl, dL_withdraw_15, ?_⟩⟩
      refine go_iconst (y := mL_withdraw) (pc := 16) dL_withdraw_16 ?_
      exact go_ireturn (y := mL_withdraw) (pc := 17) dL_withdraw_17 rfl hQ
def mL_sharpen : MI := (yL_sharpen, cL_sharpen, 4, some .int, [(0, 9, 12, 24), (0, 9, 15, 13)], none)
theorem ok_L_sharpen : mokH mL_sharpen 3 := ⟨tb_in 1704 (by decide +kernel) (by decide +kernel), tb_in 0 (by decide +kernel) (by decide +kernel), by decide +kernel, ⟨by decide +kernel, by decide +kernel, by decide +kernel⟩, by decide, rfl, tb_in 1703 (by decide +kernel) (by decide +kernel)⟩
theorem W_sharpen {a1 : Int} (K : mt 276 d kc ks mX10_sharpen [.ref 0, .int (iI a1)] (fun r μ' => ∃ v : Int, r = some (.int (iI v)) ∧ rng v ∧ Q (some (.int (iI 0))) (wr μ' 289 0 v)) (fun E μ' => (E = "java/lang/IndexOutOfBoundsException" ∧ Q (some (.int (iI 1))) μ') ∨ (E = "java/lang/IllegalStateException" ∧ Q (some (.int (iI 2))) μ')) μ) : mt 291 (d + 1) kc ks mL_sharpen [.ref 0, .int (iI a1), .ref 289] Q X μ := by
  show go 291 (d + 1) kc ks mL_sharpen Q X 0 [.ref 0, .int (iI a1), .ref 289, .null] [] _
  refine go_aload_n (y := mL_sharpen) (pc := 0) dL_sharpen_0 rfl rfl ?_
  refine go_iconst (y := mL_sharpen) (pc := 1) dL_sharpen_1 ?_
  refine go_aload_n (y := mL_sharpen) (pc := 2) dL_sharpen_2 rfl rfl ?_
  refine go_iload_n (y := mL_sharpen) (pc := 3) dL_sharpen_3 rfl rfl ?_
  refine go_callVH (y := mL_sharpen) (pc := 4) (y' := mX10_sharpen) (as := [.int (iI a1)]) (z' := 276) (d' := d) (kc' := kc) (ks' := ks) (kc2 := 0) (ks2 := 0) dL_sharpen_4 rfl ml_L_126 ok_X10_sharpen (show shp 0 = _ from rfl) ⟨_, _, rfl⟩ (by decide) rfl (Nat.le_of_ble_eq_true rfl) (by intro v hv; simp only [List.mem_cons, List.not_mem_nil, or_false] at hv; rw [hv]; rfl) (Nat.le_of_ble_eq_true rfl) (by decide) (Nat.le_refl _) (Nat.le_refl _) (Nat.le_refl _) (mt_mono K (fun r μ' h => ?_) (fun E μ' h => ?_))
  · obtain ⟨v, rfl, hv, hQ⟩ := h
    refine go_i2l (y := mL_sharpen) (pc := 7) dL_sharpen_7 ?_
    refine go_lastore (y := mL_sharpen) (pc := 8) dL_sharpen_8 (by decide) hv ?_
    refine go_goto (y := mL_sharpen) (pc := 9) (tgt := 18) dL_sharpen_9 (by decide) ?_
    refine go_iconst (y := mL_sharpen) (pc := 18) dL_sharpen_18 ?_
    exact go_ireturn (y := mL_sharpen) (pc := 19) dL_sharpen_19 rfl hQ
  · rcases h with ⟨rfl, hQ⟩ | ⟨rfl, hQ⟩
    · refine ⟨12, 3, ⟨[], ⟨0, 9, 12, 24⟩, [⟨0, 9, 15, 13⟩], rfl, (fun z hz => by cases hz), by decide, by decide, lcl_24, lca_24, rfl⟩, by decide, Or.inl ⟨3, rfl, dL_sharpen_12, ?_⟩⟩
      refine go_iconst (y := mL_sharpen) (pc := 13) dL_sharpen_13 ?_
      exact go_ireturn (y := mL_sharpen) (pc := 14) dL_sharpen_14 rfl hQ
    · refine ⟨15, 3, ⟨[⟨0, 9, 12, 24⟩], ⟨0, 9, 15, 13⟩, [], rfl, (fun z hz => by simp only [List.mem_cons, List.not_mem_nil, or_false] at hz; rcases hz with rfl <;> first | exact Or.inr ⟨by decide, _, lcl_24, by decide +kernel⟩), by decide, by decide, lcl_13, lca_13, rfl⟩, by decide, Or.inl ⟨3, rfl, dL_sharpen_15, ?_⟩⟩
      refine go_iconst (y := mL_sharpen) (pc := 16) dL_sharpen_16 ?_
      exact go_ireturn (y := mL_sharpen) (pc := 17) dL_sharpen_17 rfl hQ
def mL_setRanking : MI := (yL_setRanking, cL_setRanking, 4, some .int, [(0, 9, 12, 24)], none)
theorem ok_L_setRanking : mokH mL_setRanking 3 := ⟨tb_in 1713 (by decide +kernel) (by decide +kernel), tb_in 0 (by decide +kernel) (by decide +kernel), by decide +kernel, ⟨by decide +kernel, by decide +kernel, by decide +kernel⟩, by decide, rfl, tb_in 1712 (by decide +kernel) (by decide +kernel)⟩
theorem W_setRanking {a1 : Int} (K : mt 276 d kc ks mX10_setRanking [.ref 0, .int (iI a1)] (fun r μ' => ∃ v : Int, r = some (.int (iI v)) ∧ rng v ∧ Q (some (.int (iI 0))) (wr μ' 289 0 v)) (fun E μ' => (E = "java/lang/IndexOutOfBoundsException" ∧ Q (some (.int (iI 1))) μ')) μ) : mt 291 (d + 1) kc ks mL_setRanking [.ref 0, .int (iI a1), .ref 289] Q X μ := by
  show go 291 (d + 1) kc ks mL_setRanking Q X 0 [.ref 0, .int (iI a1), .ref 289, .null] [] _
  refine go_aload_n (y := mL_setRanking) (pc := 0) dL_setRanking_0 rfl rfl ?_
  refine go_iconst (y := mL_setRanking) (pc := 1) dL_setRanking_1 ?_
  refine go_aload_n (y := mL_setRanking) (pc := 2) dL_setRanking_2 rfl rfl ?_
  refine go_iload_n (y := mL_setRanking) (pc := 3) dL_setRanking_3 rfl rfl ?_
  refine go_callVH (y := mL_setRanking) (pc := 4) (y' := mX10_setRanking) (as := [.int (iI a1)]) (z' := 276) (d' := d) (kc' := kc) (ks' := ks) (kc2 := 0) (ks2 := 0) dL_setRanking_4 rfl ml_L_129 ok_X10_setRanking (show shp 0 = _ from rfl) ⟨_, _, rfl⟩ (by decide) rfl (Nat.le_of_ble_eq_true rfl) (by intro v hv; simp only [List.mem_cons, List.not_mem_nil, or_false] at hv; rw [hv]; rfl) (Nat.le_of_ble_eq_true rfl) (by decide) (Nat.le_refl _) (Nat.le_refl _) (Nat.le_refl _) (mt_mono K (fun r μ' h => ?_) (fun E μ' h => ?_))
  · obtain ⟨v, rfl, hv, hQ⟩ := h
    refine go_i2l (y := mL_setRanking) (pc := 7) dL_setRanking_7 ?_
    refine go_lastore (y := mL_setRanking) (pc := 8) dL_setRanking_8 (by decide) hv ?_
    refine go_goto (y := mL_setRanking) (pc := 9) (tgt := 15) dL_setRanking_9 (by decide) ?_
    refine go_iconst (y := mL_setRanking) (pc := 15) dL_setRanking_15 ?_
    exact go_ireturn (y := mL_setRanking) (pc := 16) dL_setRanking_16 rfl hQ
  · obtain ⟨rfl, hQ⟩ := h
    refine ⟨12, 3, ⟨[], ⟨0, 9, 12, 24⟩, [], rfl, (fun z hz => by cases hz), by decide, by decide, lcl_24, lca_24, rfl⟩, by decide, Or.inl ⟨3, rfl, dL_setRanking_12, ?_⟩⟩
    refine go_iconst (y := mL_setRanking) (pc := 13) dL_setRanking_13 ?_
    exact go_ireturn (y := mL_setRanking) (pc := 14) dL_setRanking_14 rfl hQ
def mL_undo : MI := (yL_undo, cL_undo, 3, some .int, [(0, 8, 11, 13)], none)
theorem ok_L_undo : mokH mL_undo 2 := ⟨tb_in 1720 (by decide +kernel) (by decide +kernel), tb_in 0 (by decide +kernel) (by decide +kernel), by decide +kernel, ⟨by decide +kernel, by decide +kernel, by decide +kernel⟩, by decide, rfl, tb_in 1719 (by decide +kernel) (by decide +kernel)⟩
theorem W_undo (K : mt 276 d kc ks mX10_undo [.ref 0] (fun r μ' => ∃ v : Int, r = some (.int (iI v)) ∧ rng v ∧ Q (some (.int (iI 0))) (wr μ' 289 0 v)) (fun E μ' => (E = "java/lang/IllegalStateException" ∧ Q (some (.int (iI 1))) μ')) μ) : mt 291 (d + 1) kc ks mL_undo [.ref 0, .ref 289] Q X μ := by
  show go 291 (d + 1) kc ks mL_undo Q X 0 [.ref 0, .ref 289, .null] [] _
  refine go_aload_n (y := mL_undo) (pc := 0) dL_undo_0 rfl rfl ?_
  refine go_iconst (y := mL_undo) (pc := 1) dL_undo_1 ?_
  refine go_aload_n (y := mL_undo) (pc := 2) dL_undo_2 rfl rfl ?_
  refine go_callVH (y := mL_undo) (pc := 3) (y' := mX10_undo) (as := []) (z' := 276) (d' := d) (kc' := kc) (ks' := ks) (kc2 := 0) (ks2 := 0) dL_undo_3 rfl ml_L_132 ok_X10_undo (show shp 0 = _ from rfl) ⟨_, _, rfl⟩ (by decide) rfl (Nat.le_of_ble_eq_true rfl) (by intro v hv; simp only [List.mem_cons, List.not_mem_nil, or_false] at hv) (Nat.le_of_ble_eq_true rfl) (by decide) (Nat.le_refl _) (Nat.le_refl _) (Nat.le_refl _) (mt_mono K (fun r μ' h => ?_) (fun E μ' h => ?_))
  · obtain ⟨v, rfl, hv, hQ⟩ := h
    refine go_i2l (y := mL_undo) (pc := 6) dL_undo_6 ?_
    refine go_lastore (y := mL_undo) (pc := 7) dL_undo_7 (by decide) hv ?_
    refine go_goto (y := mL_undo) (pc := 8) (tgt := 14) dL_undo_8 (by decide) ?_
    refine go_iconst (y := mL_undo) (pc := 14) dL_undo_14 ?_
    exact go_ireturn (y := mL_undo) (pc := 15) dL_undo_15 rfl hQ
  · obtain ⟨rfl, hQ⟩ := h
    refine ⟨11, 2, ⟨[], ⟨0, 8, 11, 13⟩, [], rfl, (fun z hz => by cases hz), by decide, by decide, lcl_13, lca_13, rfl⟩, by decide, Or.inl ⟨2, rfl, dL_undo_11, ?_⟩⟩
    refine go_iconst (y := mL_undo) (pc := 12) dL_undo_12 ?_
    exact go_ireturn (y := mL_undo) (pc := 13) dL_undo_13 rfl hQ
def mL_save : MI := (yL_save, cL_save, 4, some .int, [(0, 9, 12, 24)], none)
theorem ok_L_save : mokH mL_save 3 := ⟨tb_in 1732 (by decide +kernel) (by decide +kernel), tb_in 0 (by decide +kernel) (by decide +kernel), by decide +kernel, ⟨by decide +kernel, by decide +kernel, by decide +kernel⟩, by decide, rfl, tb_in 1731 (by decide +kernel) (by decide +kernel)⟩
theorem W_save {a1 : Int} (K : mt 276 d kc ks mX10_save [.ref 0, .int (iI a1)] (fun r μ' => ∃ v : Int, r = some (.int (iI v)) ∧ rng v ∧ Q (some (.int (iI 0))) (wr μ' 289 0 v)) (fun E μ' => (E = "java/lang/IndexOutOfBoundsException" ∧ Q (some (.int (iI 1))) μ')) μ) : mt 291 (d + 1) kc ks mL_save [.ref 0, .int (iI a1), .ref 289] Q X μ := by
  show go 291 (d + 1) kc ks mL_save Q X 0 [.ref 0, .int (iI a1), .ref 289, .null] [] _
  refine go_aload_n (y := mL_save) (pc := 0) dL_save_0 rfl rfl ?_
  refine go_iconst (y := mL_save) (pc := 1) dL_save_1 ?_
  refine go_aload_n (y := mL_save) (pc := 2) dL_save_2 rfl rfl ?_
  refine go_iload_n (y := mL_save) (pc := 3) dL_save_3 rfl rfl ?_
  refine go_callVH (y := mL_save) (pc := 4) (y' := mX10_save) (as := [.int (iI a1)]) (z' := 276) (d' := d) (kc' := kc) (ks' := ks) (kc2 := 0) (ks2 := 0) dL_save_4 rfl ml_L_136 ok_X10_save (show shp 0 = _ from rfl) ⟨_, _, rfl⟩ (by decide) rfl (Nat.le_of_ble_eq_true rfl) (by intro v hv; simp only [List.mem_cons, List.not_mem_nil, or_false] at hv; rw [hv]; rfl) (Nat.le_of_ble_eq_true rfl) (by decide) (Nat.le_refl _) (Nat.le_refl _) (Nat.le_refl _) (mt_mono K (fun r μ' h => ?_) (fun E μ' h => ?_))
  · obtain ⟨v, rfl, hv, hQ⟩ := h
    refine go_i2l (y := mL_save) (pc := 7) dL_save_7 ?_
    refine go_lastore (y := mL_save) (pc := 8) dL_save_8 (by decide) hv ?_
    refine go_goto (y := mL_save) (pc := 9) (tgt := 15) dL_save_9 (by decide) ?_
    refine go_iconst (y := mL_save) (pc := 15) dL_save_15 ?_
    exact go_ireturn (y := mL_save) (pc := 16) dL_save_16 rfl hQ
  · obtain ⟨rfl, hQ⟩ := h
    refine ⟨12, 3, ⟨[], ⟨0, 9, 12, 24⟩, [], rfl, (fun z hz => by cases hz), by decide, by decide, lcl_24, lca_24, rfl⟩, by decide, Or.inl ⟨3, rfl, dL_save_12, ?_⟩⟩
    refine go_iconst (y := mL_save) (pc := 13) dL_save_13 ?_
    exact go_ireturn (y := mL_save) (pc := 14) dL_save_14 rfl hQ
def mL_restore : MI := (yL_restore, cL_restore, 4, some .int, [(0, 9, 12, 24), (0, 9, 15, 79)], none)
theorem ok_L_restore : mokH mL_restore 3 := ⟨tb_in 1743 (by decide +kernel) (by decide +kernel), tb_in 0 (by decide +kernel) (by decide +kernel), by decide +kernel, ⟨by decide +kernel, by decide +kernel, by decide +kernel⟩, by decide, rfl, tb_in 1742 (by decide +kernel) (by decide +kernel)⟩
theorem W_restore {a1 : Int} (K : mt 276 d kc ks mX10_restore [.ref 0, .int (iI a1)] (fun r μ' => ∃ v : Int, r = some (.int (iI v)) ∧ rng v ∧ Q (some (.int (iI 0))) (wr μ' 289 0 v)) (fun E μ' => (E = "java/lang/IndexOutOfBoundsException" ∧ Q (some (.int (iI 1))) μ') ∨ (E = "java/util/NoSuchElementException" ∧ Q (some (.int (iI 2))) μ')) μ) : mt 291 (d + 1) kc ks mL_restore [.ref 0, .int (iI a1), .ref 289] Q X μ := by
  show go 291 (d + 1) kc ks mL_restore Q X 0 [.ref 0, .int (iI a1), .ref 289, .null] [] _
  refine go_aload_n (y := mL_restore) (pc := 0) dL_restore_0 rfl rfl ?_
  refine go_iconst (y := mL_restore) (pc := 1) dL_restore_1 ?_
  refine go_aload_n (y := mL_restore) (pc := 2) dL_restore_2 rfl rfl ?_
  refine go_iload_n (y := mL_restore) (pc := 3) dL_restore_3 rfl rfl ?_
  refine go_callVH (y := mL_restore) (pc := 4) (y' := mX10_restore) (as := [.int (iI a1)]) (z' := 276) (d' := d) (kc' := kc) (ks' := ks) (kc2 := 0) (ks2 := 0) dL_restore_4 rfl ml_L_139 ok_X10_restore (show shp 0 = _ from rfl) ⟨_, _, rfl⟩ (by decide) rfl (Nat.le_of_ble_eq_true rfl) (by intro v hv; simp only [List.mem_cons, List.not_mem_nil, or_false] at hv; rw [hv]; rfl) (Nat.le_of_ble_eq_true rfl) (by decide) (Nat.le_refl _) (Nat.le_refl _) (Nat.le_refl _) (mt_mono K (fun r μ' h => ?_) (fun E μ' h => ?_))
  · obtain ⟨v, rfl, hv, hQ⟩ := h
    refine go_i2l (y := mL_restore) (pc := 7) dL_restore_7 ?_
    refine go_lastore (y := mL_restore) (pc := 8) dL_restore_8 (by decide) hv ?_
    refine go_goto (y := mL_restore) (pc := 9) (tgt := 18) dL_restore_9 (by decide) ?_
    refine go_iconst (y := mL_restore) (pc := 18) dL_restore_18 ?_
    exact go_ireturn (y := mL_restore) (pc := 19) dL_restore_19 rfl hQ
  · rcases h with ⟨rfl, hQ⟩ | ⟨rfl, hQ⟩
    · refine ⟨12, 3, ⟨[], ⟨0, 9, 12, 24⟩, [⟨0, 9, 15, 79⟩], rfl, (fun z hz => by cases hz), by decide, by decide, lcl_24, lca_24, rfl⟩, by decide, Or.inl ⟨3, rfl, dL_restore_12, ?_⟩⟩
      refine go_iconst (y := mL_restore) (pc := 13) dL_restore_13 ?_
      exact go_ireturn (y := mL_restore) (pc := 14) dL_restore_14 rfl hQ
    · refine ⟨15, 3, ⟨[⟨0, 9, 12, 24⟩], ⟨0, 9, 15, 79⟩, [], rfl, (fun z hz => by simp only [List.mem_cons, List.not_mem_nil, or_false] at hz; rcases hz with rfl <;> first | exact Or.inr ⟨by decide, _, lcl_24, by decide +kernel⟩), by decide, by decide, lcl_79, lca_79, rfl⟩, by decide, Or.inl ⟨3, rfl, dL_restore_15, ?_⟩⟩
      refine go_iconst (y := mL_restore) (pc := 16) dL_restore_16 ?_
      exact go_ireturn (y := mL_restore) (pc := 17) dL_restore_17 rfl hQ
end Wrap
