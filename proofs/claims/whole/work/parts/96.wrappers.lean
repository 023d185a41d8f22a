/-! THE LAW'S WRAPPERS -/
theorem mt_mono {z d kc ks : Nat} {y : MI} {as : List Value} {Q Q' : Option Value → Mem → Prop} {X X' : String → Mem → Prop} {μ : Mem} (h : mt z d kc ks y as Q X μ) (hq : ∀ r μ, Q r μ → Q' r μ) (hx : ∀ E μ, X E μ → X' E μ) : mt z d kc ks y as Q' X' μ := by
  intro p l e R s m args below meth c D cy X0 mc ms nn ad hc H locs cells slots lsA dv hw hS hl h1 h2
  refine W_mono (h p l e R s m args below meth c D cy X0 mc ms nn ad hc H locs cells slots lsA dv hw hS hl h1 h2) (fun t ht => ?_)
  obtain ⟨o, t1, t2, t3⟩ := ht
  refine ⟨o, t1, t2, ?_⟩
  rcases t3 with ⟨⟨⟨r, μ1, dv1, q1, q2, q3⟩, q4⟩, q5⟩ | ⟨q, w1, E9, ce, L9, ⟨⟨μ1, dv1, g1, g2⟩, g3⟩, w3⟩
  · exact Or.inl ⟨⟨⟨r, μ1, dv1, q1, hq _ _ q2, q3⟩, q4⟩, q5⟩
  · exact Or.inr ⟨q, w1, E9, ce, L9, ⟨⟨μ1, dv1, hx _ _ g1, g2⟩, g3⟩, w3⟩
theorem lcl_13 : Cond.classLink RL 13 "java/lang/IllegalStateException" ∈ aw := tb_in 1352 (by decide +kernel) (by decide +kernel)
theorem lca_13 : Cond.castable "java/lang/IllegalStateException" "java/lang/IllegalStateException" ∈ fw := fw_in 1362 (by decide +kernel) (by decide +kernel)
theorem lcl_19 : Cond.classLink RL 19 "java/lang/IllegalArgumentException" ∈ aw := tb_in 1383 (by decide +kernel) (by decide +kernel)
theorem lca_19 : Cond.castable "java/lang/IllegalArgumentException" "java/lang/IllegalArgumentException" ∈ fw := fw_in 1154 (by decide +kernel) (by decide +kernel)
theorem lcl_24 : Cond.classLink RL 24 "java/lang/IndexOutOfBoundsException" ∈ aw := tb_in 1394 (by decide +kernel) (by decide +kernel)
theorem lca_24 : Cond.castable "java/lang/IndexOutOfBoundsException" "java/lang/IndexOutOfBoundsException" ∈ fw := fw_in 1406 (by decide +kernel) (by decide +kernel)
theorem lcl_79 : Cond.classLink RL 79 "java/util/NoSuchElementException" ∈ aw := tb_in 1555 (by decide +kernel) (by decide +kernel)
theorem lca_79 : Cond.castable "java/util/NoSuchElementException" "java/util/NoSuchElementException" ∈ fw := fw_in 1562 (by decide +kernel) (by decide +kernel)
section Wrap
variable {d kc ks : Nat} {Q : Option Value → Mem → Prop} {X : String → Mem → Prop} {μ : Mem}
def mL_weight : MI := (yL_weight, cL_weight, 4, some .int, [(0, 9, 12, 24)], none)
theorem ok_L_weight : mokH mL_weight 3 := ⟨tb_in 1393 (by decide +kernel) (by decide +kernel), tb_in 0 (by decide +kernel) (by decide +kernel), by decide +kernel, ⟨by decide +kernel, by decide +kernel, by decide +kernel⟩, by decide, rfl, tb_in 1392 (by decide +kernel) (by decide +kernel)⟩
theorem W_weight {a1 : Int} (K : mt 276 d kc ks mX10_weight [.ref 0, .int (iI a1)] (fun r μ' => ∃ v : Int, r = some (.int (iI v)) ∧ rng v ∧ Q (some (.int (iI 0))) (wr μ' 289 0 v)) (fun E μ' => (E = "java/lang/IndexOutOfBoundsException" ∧ Q (some (.int (iI 1))) μ')) μ) : mt 291 (d + 1) kc ks mL_weight [.ref 0, .int (iI a1), .ref 289] Q X μ := by
  show go 291 (d + 1) kc ks mL_weight Q X 0 [.ref 0, .int (iI a1), .ref 289, .null] [] _
  refine go_aload_n (y := mL_weight) (pc := 0) dL_weight_0 rfl rfl ?_
  refine go_iconst (y := mL_weight) (pc := 1) dL_weight_1 ?_
  refine go_aload_n (y := mL_weight) (pc := 2) dL_weight_2 rfl rfl ?_
  refine go_iload_n (y := mL_weight) (pc := 3) dL_weight_3 rfl rfl ?_
  refine go_callVH (y := mL_weight) (pc := 4) (y' := mX10_weight) (as := [.int (iI a1)]) (z' := 276) (d' := d) (kc' := kc) (ks' := ks) (kc2 := 0) (ks2 := 0) dL_weight_4 rfl ml_L_21 ok_X10_weight (show shp 0 = _ from rfl) ⟨_, _, rfl⟩ (by decide) rfl (Nat.le_of_ble_eq_true rfl) (by intro v hv; simp only [List.mem_cons, List.not_mem_nil, or_false] at hv; rw [hv]; rfl) (Nat.le_of_ble_eq_true rfl) (by decide) (Nat.le_refl _) (Nat.le_refl _) (Nat.le_refl _) (mt_mono K (fun r μ' h => ?_) (fun E μ' h => ?_))
  · obtain ⟨v, rfl, hv, hQ⟩ := h
    refine go_i2l (y := mL_weight) (pc := 7) dL_weight_7 ?_
    refine go_lastore (y := mL_weight) (pc := 8) dL_weight_8 (by decide) hv ?_
    refine go_goto (y := mL_weight) (pc := 9) (tgt := 15) dL_weight_9 (by decide) ?_
    refine go_iconst (y := mL_weight) (pc := 15) dL_weight_15 ?_
    exact go_ireturn (y := mL_weight) (pc := 16) dL_weight_16 rfl hQ
  · obtain ⟨rfl, hQ⟩ := h
    refine ⟨12, 3, ⟨[], ⟨0, 9, 12, 24⟩, [], rfl, (fun z hz => by cases hz), by decide, by decide, lcl_24, lca_24, rfl⟩, by decide, Or.inl ⟨3, rfl, dL_weight_12, ?_⟩⟩
    refine go_iconst (y := mL_weight) (pc := 13) dL_weight_13 ?_
    exact go_ireturn (y := mL_weight) (pc := 14) dL_weight_14 rfl hQ
def mL_speechMotion : MI := (yL_speechMotion, cL_speechMotion, 4, some .int, [(0, 9, 12, 24), (0, 9, 15, 79)], none)
theorem ok_L_speechMotion : mokH mL_speechMotion 3 := ⟨tb_in 1554 (by decide +kernel) (by decide +kernel), tb_in 0 (by decide +kernel) (by decide +kernel), by decide +kernel, ⟨by decide +kernel, by decide +kernel, by decide +kernel⟩, by decide, rfl, tb_in 1553 (by decide +kernel) (by decide +kernel)⟩
theorem W_speechMotion {a1 : Int} (K : mt 276 d kc ks mX10_speechMotion [.ref 0, .int (iI a1)] (fun r μ' => ∃ v : Int, r = some (.int (iI v)) ∧ rng v ∧ Q (some (.int (iI 0))) (wr μ' 289 0 v)) (fun E μ' => (E = "java/lang/IndexOutOfBoundsException" ∧ Q (some (.int (iI 1))) μ') ∨ (E = "java/util/NoSuchElementException" ∧ Q (some (.int (iI 2))) μ')) μ) : mt 291 (d + 1) kc ks mL_speechMotion [.ref 0, .int (iI a1), .ref 289] Q X μ := by
  show go 291 (d + 1) kc ks mL_speechMotion Q X 0 [.ref 0, .int (iI a1), .ref 289, .null] [] _
  refine go_aload_n (y := mL_speechMotion) (pc := 0) dL_speechMotion_0 rfl rfl ?_
  refine go_iconst (y := mL_speechMotion) (pc := 1) dL_speechMotion_1 ?_
  refine go_aload_n (y := mL_speechMotion) (pc := 2) dL_speechMotion_2 rfl rfl ?_
  refine go_iload_n (y := mL_speechMotion) (pc := 3) dL_speechMotion_3 rfl rfl ?_
  refine go_callVH (y := mL_speechMotion) (pc := 4) (y' := mX10_speechMotion) (as := [.int (iI a1)]) (z' := 276) (d' := d) (kc' := kc) (ks' := ks) (kc2 := 0) (ks2 := 0) dL_speechMotion_4 rfl ml_L_76 ok_X10_speechMotion (show shp 0 = _ from rfl) ⟨_, _, rfl⟩ (by decide) rfl (Nat.le_of_ble_eq_true rfl) (by intro v hv; simp only [List.mem_cons, List.not_mem_nil, or_false] at hv; rw [hv]; rfl) (Nat.le_of_ble_eq_true rfl) (by decide) (Nat.le_refl _) (Nat.le_refl _) (Nat.le_refl _) (mt_mono K (fun r μ' h => ?_) (fun E μ' h => ?_))
  · obtain ⟨v, rfl, hv, hQ⟩ := h
    refine go_i2l (y := mL_speechMotion) (pc := 7) dL_speechMotion_7 ?_
    refine go_lastore (y := mL_speechMotion) (pc := 8) dL_speechMotion_8 (by decide) hv ?_
    refine go_goto (y := mL_speechMotion) (pc := 9) (tgt := 18) dL_speechMotion_9 (by decide) ?_
    refine go_iconst (y := mL_speechMotion) (pc := 18) dL_speechMotion_18 ?_
    exact go_ireturn (y := mL_speechMotion) (pc := 19) dL_speechMotion_19 rfl hQ
  · rcases h with ⟨rfl, hQ⟩ | ⟨rfl, hQ⟩
    · refine ⟨12, 3, ⟨[], ⟨0, 9, 12, 24⟩, [⟨0, 9, 15, 79⟩], rfl, (fun z hz => by cases hz), by decide, by decide, lcl_24, lca_24, rfl⟩, by decide, Or.inl ⟨3, rfl, dL_speechMotion_12, ?_⟩⟩
      refine go_iconst (y := mL_speechMotion) (pc := 13) dL_speechMotion_13 ?_
      exact go_ireturn (y := mL_speechMotion) (pc := 14) dL_speechMotion_14 rfl hQ
    · refine ⟨15, 3, ⟨[⟨0, 9, 12, 24⟩], ⟨0, 9, 15, 79⟩, [], rfl, (fun z hz => by simp only [List.mem_cons, List.not_mem_nil, or_false] at hz; rcases hz with rfl <;> first | exact Or.inr ⟨by decide, _, lcl_24, by decide +kernel⟩), by decide, by decide, lcl_79, lca_79, rfl⟩, by decide, Or.inl ⟨3, rfl, dL_speechMotion_15, ?_⟩⟩
      refine go_iconst (y := mL_speechMotion) (pc := 16) dL_speechMotion_16 ?_
      exact go_ireturn (y := mL_speechMotion) (pc := 17) dL_speechMotion_17 rfl hQ
def mL_meanLeaning : MI := (yL_meanLeaning, cL_meanLeaning, 4, some .int, [(0, 8, 11, 24)], none)
theorem ok_L_meanLeaning : mokH mL_meanLeaning 3 := ⟨tb_in 1607 (by decide +kernel) (by decide +kernel), tb_in 0 (by decide +kernel) (by decide +kernel), by decide +kernel, ⟨by decide +kernel, by decide +kernel, by decide +kernel⟩, by decide, rfl, tb_in 1606 (by decide +kernel) (by decide +kernel)⟩
theorem W_meanLeaning {a1 : Int} (K : mt 276 d kc ks mX10_meanLeaning [.ref 0, .int (iI a1)] (fun r μ' => ∃ v : UInt64, r = some (.double v) ∧ Q (some (.int (iI 0))) (wr (wr μ' 290 0 (dhi v)) 290 1 (dlo v))) (fun E μ' => (E = "java/lang/IndexOutOfBoundsException" ∧ Q (some (.int (iI 1))) μ')) μ) : mt 291 (d + 1) kc ks mL_meanLeaning [.ref 0, .int (iI a1), .ref 290] Q X μ := by
  show go 291 (d + 1) kc ks mL_meanLeaning Q X 0 [.ref 0, .int (iI a1), .ref 290, .null] [] _
  refine go_aload_n (y := mL_meanLeaning) (pc := 0) dL_meanLeaning_0 rfl rfl ?_
  refine go_iconst (y := mL_meanLeaning) (pc := 1) dL_meanLeaning_1 ?_
  refine go_aload_n (y := mL_meanLeaning) (pc := 2) dL_meanLeaning_2 rfl rfl ?_
  refine go_iload_n (y := mL_meanLeaning) (pc := 3) dL_meanLeaning_3 rfl rfl ?_
  refine go_callVH (y := mL_meanLeaning) (pc := 4) (y' := mX10_meanLeaning) (as := [.int (iI a1)]) (z' := 276) (d' := d) (kc' := kc) (ks' := ks) (kc2 := 0) (ks2 := 0) dL_meanLeaning_4 rfl ml_L_90 ok_X10_meanLeaning (show shp 0 = _ from rfl) ⟨_, _, rfl⟩ (by decide) rfl (Nat.le_of_ble_eq_true rfl) (by intro v hv; simp only [List.mem_cons, List.not_mem_nil, or_false] at hv; rw [hv]; rfl) (Nat.le_of_ble_eq_true rfl) (by decide) (Nat.le_refl _) (Nat.le_refl _) (Nat.le_refl _) (mt_mono K (fun r μ' h => ?_) (fun E μ' h => ?_))
  · obtain ⟨v, rfl, hQ⟩ := h
    refine go_dastore (y := mL_meanLeaning) (pc := 7) dL_meanLeaning_7 (by decide) ?_
    refine go_goto (y := mL_meanLeaning) (pc := 8) (tgt := 14) dL_meanLeaning_8 (by decide) ?_
    refine go_iconst (y := mL_meanLeaning) (pc := 14) dL_meanLeaning_14 ?_
    exact go_ireturn (y := mL_meanLeaning) (pc := 15) dL_meanLeaning_15 rfl hQ
  · obtain ⟨rfl, hQ⟩ := h
    refine ⟨11, 3, ⟨[], ⟨0, 8, 11, 24⟩, [], rfl, (fun z hz => by cases hz), by decide, by decide, lcl_24, lca_24, rfl⟩, by decide, Or.inl ⟨3, rfl, dL_meanLeaning_11, ?_⟩⟩
    refine go_iconst (y := mL_meanLeaning) (pc := 12) dL_meanLeaning_12 ?_
    exact go_ireturn (y := mL_meanLeaning) (pc := 13) dL_meanLeaning_13 rfl hQ
def mL_weightShare : MI := (yL_weightShare, cL_weightShare, 4, some .int, [(0, 9, 12, 24)], none)
theorem ok_L_weightShare : mokH mL_weightShare 3 := ⟨tb_in 1615 (by decide +kernel) (by decide +kernel), tb_in 0 (by decide +kernel) (by decide +kernel), by decide +kernel, ⟨by decide +kernel, by decide +kernel, by decide +kernel⟩, by decide, rfl, tb_in 1614 (by decide +kernel) (by decide +kernel)⟩
theorem W_weightShare {a1 : Int} (K : mt 276 d kc ks mX10_weightShare [.ref 0, .int (iI a1)] (fun r μ' => ∃ v : UInt32, r = some (.float v) ∧ vf_n64 (FP.f2d v) ∧ Q (some (.int (iI 0))) (wr (wr μ' 290 0 (dhi (FP.f2d v))) 290 1 (dlo (FP.f2d v)))) (fun E μ' => (E = "java/lang/IndexOutOfBoundsException" ∧ Q (some (.int (iI 1))) μ')) μ) : mt 291 (d + 1) kc ks mL_weightShare [.ref 0, .int (iI a1), .ref 290] Q X μ := by
  show go 291 (d + 1) kc ks mL_weightShare Q X 0 [.ref 0, .int (iI a1), .ref 290, .null] [] _
  refine go_aload_n (y := mL_weightShare) (pc := 0) dL_weightShare_0 rfl rfl ?_
  refine go_iconst (y := mL_weightShare) (pc := 1) dL_weightShare_1 ?_
  refine go_aload_n (y := mL_weightShare) (pc := 2) dL_weightShare_2 rfl rfl ?_
  refine go_iload_n (y := mL_weightShare) (pc := 3) dL_weightShare_3 rfl rfl ?_
  refine go_callVH (y := mL_weightShare) (pc := 4) (y' := mX10_weightShare) (as := [.int (iI a1)]) (z' := 276) (d' := d) (kc' := kc) (ks' := ks) (kc2 := 0) (ks2 := 0) dL_weightShare_4 rfl ml_L_94 ok_X10_weightShare (show shp 0 = _ from rfl) ⟨_, _, rfl⟩ (by decide) rfl (Nat.le_of_ble_eq_true rfl) (by intro v hv; simp only [List.mem_cons, List.not_mem_nil, or_false] at hv; rw [hv]; rfl) (Nat.le_of_ble_eq_true rfl) (by decide) (Nat.le_refl _) (Nat.le_refl _) (Nat.le_refl _) (mt_mono K (fun r μ' h => ?_) (fun E μ' h => ?_))
  · obtain ⟨v, rfl, hn, hQ⟩ := h
    refine go_f2d (y := mL_weightShare) (pc := 7) dL_weightShare_7 hn ?_
    refine go_dastore (y := mL_weightShare) (pc := 8) dL_weightShare_8 (by decide) ?_
    refine go_goto (y := mL_weightShare) (pc := 9) (tgt := 15) dL_weightShare_9 (by decide) ?_
    refine go_iconst (y := mL_weightShare) (pc := 15) dL_weightShare_15 ?_
    exact go_ireturn (y := mL_weightShare) (pc := 16) dL_weightShare_16 rfl hQ
  · obtain ⟨rfl, hQ⟩ := h
    refine ⟨12, 3, ⟨[], ⟨0, 9, 12, 24⟩, [], rfl, (fun z hz => by cases hz), by decide, by decide, lcl_24, lca_24, rfl⟩, by decide, Or.inl ⟨3, rfl, dL_weightShare_12, ?_⟩⟩
    refine go_iconst (y := mL_weightShare) (pc := 13) dL_weightShare_13 ?_
    exact go_ireturn (y := mL_weightShare) (pc := 14) dL_weightShare_14 rfl hQ
def mL_propose : MI := (yL_propose, cL_propose, 5, some .int, [(0, 10, 13, 24), (0, 10, 17, 19), (0, 10, 21, 13)], none)
theorem ok_L_propose : mokH mL_propose 4 := ⟨tb_in 1650 (by decide +kernel) (by decide +kernel), tb_in 0 (by decide +kernel) (by decide +kernel), by decide +kernel, ⟨by decide +kernel, by decide +kernel, by decide +kernel⟩, by decide, rfl, tb_in 1649 (by decide +kernel) (by decide +kernel)⟩
theorem W_propose {a1 a2 : Int} (K : mt 276 d kc ks mX10_propose [.ref 0, .int (iI a1), .int (iI a2)] (fun r μ' => ∃ v : Int, r = some (.int (iI v)) ∧ rng v ∧ Q (some (.int (iI 0))) (wr μ' 289 0 v)) (fun E μ' => (E = "java/lang/IndexOutOfBoundsException" ∧ Q (some (.int (iI 1))) μ') ∨ (E = "java/lang/IllegalArgumentException" ∧ Q (some (.int (iI 2))) μ') ∨ (E = "java/lang/IllegalStateException" ∧ Q (some (.int (iI 3))) μ')) μ) : mt 291 (d + 1) kc ks mL_propose [.ref 0, .int (iI a1), .int (iI a2), .ref 289] Q X μ := by
  show go 291 (d + 1) kc ks mL_propose Q X 0 [.ref 0, .int (iI a1), .int (iI a2), .ref 289, .null] [] _
  refine go_aload_n (y := mL_propose) (pc := 0) dL_propose_0 rfl rfl ?_
  refine go_iconst (y := mL_propose) (pc := 1) dL_propose_1 ?_
  refine go_aload_n (y := mL_propose) (pc := 2) dL_propose_2 rfl rfl ?_
  refine go_iload_n (y := mL_propose) (pc := 3) dL_propose_3 rfl rfl ?_
  refine go_iload_n (y := mL_propose) (pc := 4) dL_propose_4 rfl rfl ?_
  refine go_callVH (y := mL_propose) (pc := 5) (y' := mX10_propose) (as := [.int (iI a1), .int (iI a2)]) (z' := 276) (d' := d) (kc' := kc) (ks' := ks) (kc2 := 0) (ks2 := 0) dL_propose_5 rfl ml_L_107 ok_X10_propose (show shp 0 = _ from rfl) ⟨_, _, rfl⟩ (by decide) rfl (Nat.le_of_ble_eq_true rfl) (by intro v hv; simp only [List.mem_cons, List.not_mem_nil, or_false] at hv; rcases hv with rfl | rfl <;> rfl) (Nat.le_of_ble_eq_true rfl) (by decide) (Nat.le_refl _) (Nat.le_refl _) (Nat.le_refl _) (mt_mono K (fun r μ' h => ?_) (fun E μ' h => ?_))
  · obtain ⟨v, rfl, hv, hQ⟩ := h
    refine go_i2l (y := mL_propose) (pc := 8) dL_propose_8 ?_
    refine go_lastore (y := mL_propose) (pc := 9) dL_propose_9 (by decide) hv ?_
    refine go_goto (y := mL_propose) (pc := 10) (tgt := 25) dL_propose_10 (by decide) ?_
    refine go_iconst (y := mL_propose) (pc := 25) dL_propose_25 ?_
    exact go_ireturn (y := mL_propose) (pc := 26) dL_propose_26 rfl hQ
  · rcases h with ⟨rfl, hQ⟩ | ⟨rfl, hQ⟩ | ⟨rfl, hQ⟩
    · refine ⟨13, 4, ⟨[], ⟨0, 10, 13, 24⟩, [⟨0, 10, 17, 19⟩, ⟨0, 10, 21, 13⟩], rfl, (fun z hz => by cases hz), by decide, by decide, lcl_24, lca_24, rfl⟩, by decide, Or.inr ⟨dL_propose_13, ?_⟩⟩
      refine go_iconst (y := mL_propose) (pc := 15) dL_propose_15 ?_
      exact go_ireturn (y := mL_propose) (pc := 16) dL_propose_16 rfl hQ
    · refine ⟨17, 4, ⟨[⟨0, 10, 13, 24⟩], ⟨0, 10, 17, 19⟩, [⟨0, 10, 21, 13⟩], rfl, (fun z hz => by simp only [List.mem_cons, List.not_mem_nil, or_false] at hz; rcases hz with rfl <;> first | exact Or.inr ⟨by decide, _, lcl_24, by decide +kernel⟩), by decide, by decide, lcl_19, lca_19, rfl⟩, by decide, Or.inr ⟨dL_propose_17, ?_⟩⟩
      refine go_iconst (y := mL_propose) (pc := 19) dL_propose_19 ?_
      exact go_ireturn (y := mL_propose) (pc := 20) dL_propose_20 rfl hQ
    · refine ⟨21, 4, ⟨[⟨0, 10, 13, 24⟩, ⟨0, 10, 17, 19⟩], ⟨0, 10, 21, 13⟩, [], rfl, (fun z hz => by simp only [List.mem_cons, List.not_mem_nil, or_false] at hz; rcases hz with rfl | rfl <;> first | exact Or.inr ⟨by decide, _, lcl_24, by decide +kernel⟩ | exact Or.inr ⟨by decide, _, lcl_19, by decide +kernel⟩), by decide, by decide, lcl_13, lca_13, rfl⟩, by decide, Or.inr ⟨dL_propose_21, ?_⟩⟩
      refine go_iconst (y := mL_propose) (pc := 23) dL_propose_23 ?_
      exact go_ireturn (y := mL_propose) (pc := 24) dL_propose_24 rfl hQ
def mL_vote : MI := (yL_vote, cL_vote, 4, some .int, [(0, 16, 19, 24), (0, 16, 22, 13)], none)
theorem ok_L_vote : mokH mL_vote 3 := ⟨tb_in 1686 (by decide +kernel) (by decide +kernel), tb_in 0 (by decide +kernel) (by decide +kernel), by decide +kernel, ⟨by decide +kernel, by decide +kernel, by decide +kernel⟩, by decide, rfl, tb_in 1685 (by decide +kernel) (by decide +kernel)⟩
theorem W_vote {a1 : Int} (K : mt 276 d kc ks mX10_vote [.ref 0, .int (iI a1)] (fun r μ' => ∃ v : Int, r = some (.int (iI v)) ∧ (v = 0 ∨ v = 1) ∧ Q (some (.int (iI 0))) (wr μ' 289 0 v)) (fun E μ' => (E = "java/lang/IndexOutOfBoundsException" ∧ Q (some (.int (iI 1))) μ') ∨ (E = "java/lang/IllegalStateException" ∧ Q (some (.int (iI 2))) μ')) μ) : mt 291 (d + 1) kc ks mL_vote [.ref 0, .int (iI a1), .ref 289] Q X μ := by
  show go 291 (d + 1) kc ks mL_vote Q X 0 [.ref 0, .int (iI a1), .ref 289, .null] [] _
  refine go_aload_n (y := mL_vote) (pc := 0) dL_vote_0 rfl rfl ?_
  refine go_iconst (y := mL_vote) (pc := 1) dL_vote_1 ?_
  refine go_aload_n (y := mL_vote) (pc := 2) dL_vote_2 rfl rfl ?_
  refine go_iload_n (y := mL_vote) (pc := 3) dL_vote_3 rfl rfl ?_
  refine go_callVH (y := mL_vote) (pc := 4) (y' := mX10_vote) (as := [.int (iI a1)]) (z' := 276) (d' := d) (kc' := kc) (ks' := ks) (kc2 := 0) (ks2 := 0) dL_vote_4 rfl ml_L_120 ok_X10_vote (show shp 0 = _ from rfl) ⟨_, _, rfl⟩ (by decide) rfl (Nat.le_of_ble_eq_true rfl) (by intro v hv; simp only [List.mem_cons, List.not_mem_nil, or_false] at hv; rw [hv]; rfl) (Nat.le_of_ble_eq_true rfl) (by decide) (Nat.le_refl _) (Nat.le_refl _) (Nat.le_refl _) (mt_mono K (fun r μ' h => ?_) (fun E μ' h => ?_))
  · obtain ⟨v, rfl, hv, hQ⟩ := h
    refine go_if_eq (y := mL_vote) (pc := 7) (tgt := 14) dL_vote_7 (by decide) (by unfold rng; omega) (fun h9 => ?_) (fun h9 => ?_)
    · rw [h9] at hQ
      refine go_lconst0 (y := mL_vote) (pc := 14) dL_vote_14 ?_
      refine go_lastore (y := mL_vote) (pc := 15) dL_vote_15 (by decide) (by decide) ?_
      refine go_goto (y := mL_vote) (pc := 16) (tgt := 25) dL_vote_16 (by decide) ?_
      refine go_iconst (y := mL_vote) (pc := 25) dL_vote_25 ?_
      exact go_ireturn (y := mL_vote) (pc := 26) dL_vote_26 rfl hQ
    · rw [show v = 1 by omega] at hQ
      refine go_lconst1 (y := mL_vote) (pc := 10) dL_vote_10 ?_
      refine go_goto (y := mL_vote) (pc := 11) (tgt := 15) dL_vote_11 (by decide) ?_
      refine go_lastore (y := mL_vote) (pc := 15) dL_vote_15 (by decide) (by decide) ?_
      refine go_goto (y := mL_vote) (pc := 16) (tgt := 25) dL_vote_16 (by decide) ?_
      refine go_iconst (y := mL_vote) (pc := 25) dL_vote_25 ?_
      exact go_ireturn (y := mL_vote) (pc := 26) dL_vote_26 rfl hQ
  · rcases h with ⟨rfl, hQ⟩ | ⟨rfl, hQ⟩
    · refine ⟨19, 3, ⟨[], ⟨0, 16, 19, 24⟩, [⟨0, 16, 22, 13⟩], rfl, (fun z hz => by cases hz), by decide, by decide, lcl_24, lca_24, rfl⟩, by decide, Or.inl ⟨3, rfl, dL_vote_19, ?_⟩⟩
      refine go_iconst (y := mL_vote) (pc := 20) dL_vote_20 ?_
      exact go_ireturn (y := mL_vote) (pc := 21) dL_vote_21 rfl hQ
    · refine ⟨22, 3, ⟨[⟨0, 16, 19, 24⟩], ⟨0, 16, 22, 13⟩, [], rfl, (fun z hz => by simp only [List.mem_cons, List.not_mem_nil, or_false] at hz; rcases hz with rfl <;> first | exact Or.inr ⟨by decide, _, lcl_24, by decide +kernel⟩), by decide, by decide, lcl_13, lca_13, rfl⟩, by decide, Or.inl ⟨3, rfl, dL_vote_22, ?_⟩⟩
      refine go_iconst (y := mL_vote) (pc := 23) dL_vote_23 ?_
      exact go_ireturn (y := mL_vote) (pc := 24) dL_vote_24 rfl hQ
end Wrap
