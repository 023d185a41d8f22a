/-! THE SCRIPT, for the methods that are given it -/
theorem scx_mv {y y' : MI} {X0 : Nat → Prop} {ad : Nat → Nat} {s U : State} {H : Heap} {locs : List Loc} (h : scx y X0 ad s) (hy : y'.2.2.2.2.2 = y.2.2.2.2.2) (hU : U.heap = H) (hW : s.WarmedH U.vm) (hS : va_S X0 s.heap H locs) : scx y' X0 ad U := by
  intro L xs
  rw [hy, hU]
  have hv := hW.alike
  have hq : ∀ a : Nat, a < s.heap.size → ¬ X0 a → H[a]? = s.heap[a]? := fun a ha hn => hS.2.1 a ha hn
  refine ⟨fun e => ?_, fun e => ?_⟩
  · obtain ⟨g1, g2, g3⟩ := (h L xs).1 e
    exact ⟨va_X.kept (va_X.moved hv g1) (hq _ g2 g3), Nat.lt_of_lt_of_le g2 hS.1, g3⟩
  · obtain ⟨g0, g1, g2, g3, g4⟩ := (h L xs).2 e
    exact ⟨g0, (va_O.moved hv g1).kept hq, (va_OF.moved hv g2).kept hq, (va_OF.moved hv g3).kept hq, (va_T.moved hv g4).kept hq⟩
def gPs (y : MI) (D : va_G) (cy : Nat → ClassId) (X0 : Nat → Prop) (n : Nat) (ad : Nat → Nat) (dv : UInt64) (μ : Mem) (as : List Value) : Array Value → State → Prop := fun v U =>
  gP D cy X0 n ad dv μ as v U ∧ scx y X0 ad U
theorem gPs_blind {y : MI} {D : va_G} {cy : Nat → ClassId} {X0 : Nat → Prop} {n : Nat} {ad : Nat → Nat} {dv : UInt64} {μ : Mem} {as : List Value} : FrameBlind (gPs y D cy X0 n ad dv μ as) := by
  intro a U g mk h
  exact ⟨gP_blind a U g mk h.1, scx_mv (U := U.calling g mk a) (H := U.heap) (locs := []) h.2 rfl rfl (State.WarmedH.refl U) va_S.rf⟩
theorem mt_vxS {z d kc ks : Nat} {y : MI} {as : List Value} {Q : Option Value → Mem → Prop} {X : String → Mem → Prop} {μ : Mem} (h : mt z d kc ks y as Q X μ) (hp : plainName y.1.cls = true) (hh : y.2.2.2.2.1 = []) (hl : as.length ≤ y.2.2.1) (hc : ∀ v ∈ as, v.category = 1)
    {l : Launch} (hst : l.stackTraces = false) {D : va_G} {cy : Nat → ClassId} {X0 : Nat → Prop} {n : Nat} {ad : Nat → Nat} {dv : UInt64} (hz : z ≤ n) (hn : n ≤ 400) :
    vx_Met l y.1 (wsa y) (rmd d kc ks) (gPs y D cy X0 n ad dv μ as) (gQ D cy X0 n ad Q) (gX D cy X0 n ad X) kc ks X0 := by
  refine vx_ofW (cc := y.2.1) (maxL := y.2.2.1) (ret := y.2.2.2.1) hp rfl ?_
  intro p e s m args below meth c s₁ B hml htb hv
  obtain ⟨⟨rfl, hw, hk, hX⟩, hsc⟩ := hv
  have ht : c.exceptionTable.toList = tableOf y.2.2.2.2.1 := by
    rw [hh]
    cases hx : c.exceptionTable.toList with
    | nil => rfl
    | cons a r => exact (htb a (by rw [hx]; exact List.mem_cons_self)).elim
  rw [lg_entry_eq]
  exact go_use h (l := l) (R := (headSpec (wsa y) (rmd d kc ks)).room) ⟨B.exec, B.bytes, B.returns, hml, findClass_of_methodNamed B.named, fun w hw => atoms_spec (ws := wsa y) B.pre w (List.mem_cons_of_mem _ hw), B.notSynchronized, hk, hz, hn, Nat.le_refl d, Nat.le_refl (40 * d), Nat.le_refl kc, Nat.le_refl ks, hX, ht, (name_of_methodNamed B.named B.method).1, hst, hsc⟩
    hw va_S.rf (lh_entry hl hc) (by omega) (by omega)
section Script
variable {y : MI} {z d kc ks : Nat} {Q : Option Value → Mem → Prop} {X : String → Mem → Prop} {pc : Nat} {ls st : List Value} {μ : Mem} {L : Nat} {xs : Nat → Int32}
/-- a static method that knows the same script -/
theorem go_callSs {z' d' kc' ks' kc2 ks2 idx n : Nat} {y' : MI} {as rest : List Value} (hd : decode y.2.1 pc = .ok (.invokestatic idx, 3)) (hst : st = as.reverse ++ rest) (hlk : Cond.methodLink y.1.cls idx y'.1 ∈ aw) (hsc : y'.2.2.2.2.2 = y.2.2.2.2.2) (hm : mok0 y' n ∧ Cond.static y'.1 ∈ aw)
    (hn : as.length = n) (hl' : n ≤ y'.2.2.1) (hcat : ∀ v ∈ as, v.category = 1) (hW : (rest.map fun v => v.category).sum ≤ 8) (hz : z' ≤ z) (hdd : d' + 1 ≤ d) (hk : kc' + kc2 ≤ kc) (hks : ks' + ks2 ≤ ks) (hh : y.2.2.2.2.1 = [])
    (K : mt z' d' kc' ks' y' as (fun r μ' => go z d kc2 ks2 y Q X (pc + 3) ls (psh r rest) μ') X μ) : go z d kc ks y Q X pc ls st μ := by
  subst hst
  intro p l e R s m args below meth c D cy X0 mc ms nn ad hc H locs cells slots lsA dv hw hS hl h1 h2
  obtain ⟨c1, c2, c3, c4, c5, c6, c7, c8, c9, c10, c11, c12, c13, c14, c15, c16, c17, c18, c19⟩ := id hc
  obtain ⟨⟨k1, k2, k3, k4, k5, k6⟩, k7⟩ := hm
  have hM := mt_vxS (l := l) (D := D) (cy := cy) (X0 := X0) (n := nn) (ad := ad) (dv := dv) K k3 k6 (by omega) hcat c18 (by omega) c10
  have hcw : CallB R s args y.1.cls idx y'.1 y'.2.1 y'.2.2.1 y'.2.2.2.1 (wsa y') (rmd d' kc' ks') kc' ks' n ∧ (Cond.static y'.1).before args s = true :=
    ⟨callB_of n c6 (good_wsa k1) rfl rfl rfl (c6 _ k2) (c6 _ hlk) k4 ⟨by show d' + 1 ≤ _; omega, by show 8 + (y'.2.2.1 + 11) + 40 * d' ≤ _; omega⟩, c6 _ k7⟩
  have hp : PreS s H (gPs y' D cy X0 nn ad dv μ as) (as.map (av_l ad)) :=
    ⟨gPs_blind, fun U hU hWU => ⟨⟨rfl, by rw [hU]; exact hw, by rw [hU]; exact kx_moved hWU hS c8, by rw [hU]; exact AX_le c15 hS.1⟩, scx_mv c19 hsc hU hWU hS⟩⟩
  refine go_backH (kc' := kc') (ks' := ks') (kc2 := kc2) (ks2 := ks2) (rest := rest) hc hS hl (by omega) (by omega) (a := (as.map (av_l ad)).toArray) (go_thru hc hh (kc2 := kc2) (ks2 := ks2) (by omega) (by omega)) ?_
  refine vx_runS (As := as.map (av_l ad)) (nL := y.2.2.1) ⟨c1, c2, c4, c5, c6⟩ hM hcw hp rfl (by rw [List.length_map]; exact hn) hl.1 ?_ (lv_room (by rw [av_sum]; exact hW)) hd ⟨by omega, by omega⟩
  simp [List.map_append, List.map_reverse]
theorem go_callSs2 {z' d' kc' ks' kc2 ks2 idx : Nat} {y' : MI} {a1 a2 : Value} {rest : List Value} (hd : decode y.2.1 pc = .ok (.invokestatic idx, 3)) (hlk : Cond.methodLink y.1.cls idx y'.1 ∈ aw) (hsc : y'.2.2.2.2.2 = y.2.2.2.2.2) (hm : mok0 y' 2 ∧ Cond.static y'.1 ∈ aw)
    (hcat : a1.category = 1 ∧ a2.category = 1) (hq : 2 ≤ y'.2.2.1 ∧ z' ≤ z ∧ d' + 1 ≤ d ∧ kc' + kc2 ≤ kc ∧ ks' + ks2 ≤ ks) (hW : (rest.map fun v => v.category).sum ≤ 8) (hh : y.2.2.2.2.1 = [])
    (K : mt z' d' kc' ks' y' [a1, a2] (fun r μ' => go z d kc2 ks2 y Q X (pc + 3) ls (psh r rest) μ') X μ) : go z d kc ks y Q X pc ls (a2 :: a1 :: rest) μ :=
  go_callSs (as := [a1, a2]) hd rfl hlk hsc hm rfl hq.1 (by intro v hv; simp only [List.mem_cons, List.not_mem_nil, or_false] at hv; obtain ⟨h1, h2⟩ := hcat; rcases hv with rfl | rfl <;> assumption) hW hq.2.1 hq.2.2.1 hq.2.2.2.1 hq.2.2.2.2 hh K
theorem go_callSs3 {z' d' kc' ks' kc2 ks2 idx : Nat} {y' : MI} {a1 a2 a3 : Value} {rest : List Value} (hd : decode y.2.1 pc = .ok (.invokestatic idx, 3)) (hlk : Cond.methodLink y.1.cls idx y'.1 ∈ aw) (hsc : y'.2.2.2.2.2 = y.2.2.2.2.2) (hm : mok0 y' 3 ∧ Cond.static y'.1 ∈ aw)
    (hcat : a1.category = 1 ∧ a2.category = 1 ∧ a3.category = 1) (hq : 3 ≤ y'.2.2.1 ∧ z' ≤ z ∧ d' + 1 ≤ d ∧ kc' + kc2 ≤ kc ∧ ks' + ks2 ≤ ks) (hW : (rest.map fun v => v.category).sum ≤ 8) (hh : y.2.2.2.2.1 = [])
    (K : mt z' d' kc' ks' y' [a1, a2, a3] (fun r μ' => go z d kc2 ks2 y Q X (pc + 3) ls (psh r rest) μ') X μ) : go z d kc ks y Q X pc ls (a3 :: a2 :: a1 :: rest) μ :=
  go_callSs (as := [a1, a2, a3]) hd rfl hlk hsc hm rfl hq.1 (by intro v hv; simp only [List.mem_cons, List.not_mem_nil, or_false] at hv; obtain ⟨h1, h2, h3⟩ := hcat; rcases hv with rfl | rfl | rfl <;> assumption) hW hq.2.1 hq.2.2.1 hq.2.2.2.1 hq.2.2.2.2 hh K
theorem go_sld {k : Nat} {i : Int} (hd : decode y.2.1 pc = .ok (.iaload, 1)) (hsc : y.2.2.2.2.2 = some (false, L, xs)) (hi : i = (k : Int)) (hk : k < L) (hL : L ≤ 300) (K : go z d kc ks y Q X (pc + 1) ls (.int (iI (xs k).toInt) :: st) μ) : go z d kc ks y Q X pc ls (.int (iI i) :: .ref 6000 :: st) μ := by
  intro p l e R s m args below meth c D cy X0 mc ms nn ad hc H locs cells slots lsA dv hw hS hl h1 h2
  subst hi
  obtain ⟨c1, c2, c3, c4, c5, c6, c7, c8, c9, c10, c11, c12, c13, c14, c15, c16, c17, c18, c19⟩ := id hc
  obtain ⟨g1, g2, g3⟩ := (c19 L xs).1 hsc
  refine va_sld c1 c2 g1 g2 g3 hS (iI_in hk (by omega)) hd ?_
  rw [iI_clamp (by omega), ← iI_as (xs k)]
  exact go_use K hc hw hS hl h1 h2
theorem go_slen (hd : decode y.2.1 pc = .ok (.arraylength, 1)) (hsc : y.2.2.2.2.2 = some (false, L, xs)) (hL : L ≤ 300) (K : go z d kc ks y Q X (pc + 1) ls (.int (iI (L : Nat)) :: st) μ) : go z d kc ks y Q X pc ls (.ref 6000 :: st) μ := by
  intro p l e R s m args below meth c D cy X0 mc ms nn ad hc H locs cells slots lsA dv hw hS hl h1 h2
  obtain ⟨c1, c2, c3, c4, c5, c6, c7, c8, c9, c10, c11, c12, c13, c14, c15, c16, c17, c18, c19⟩ := id hc
  obtain ⟨g1, g2, g3⟩ := (c19 L xs).1 hsc
  refine va_slen c1 c2 g1 g2 g3 hS hd ?_
  rw [iI_of (by omega)]
  exact go_use K hc hw hS hl h1 h2
theorem go_ldcI {idx : Nat} {v : Int32} {w : Int} (hd : decode y.2.1 pc = .ok (.ldc idx, 2)) (hi : Cond.constant y.1.cls idx v ∈ aw) (hv : v = iI w) (K : go z d kc ks y Q X (pc + 2) ls (.int (iI w) :: st) μ) : go z d kc ks y Q X pc ls st μ := by
  intro p l e R s m args below meth c D cy X0 mc ms nn ad hc H locs cells slots lsA dv hw hS hl h1 h2
  subst hv
  exact lv_ldc hc.1 hc.2.1 hc.2.2.2.2.1 (hc.2.2.2.2.2.1 _ hi) hd (go_use K hc hw hS hl h1 h2)
theorem rem_nat {a b : Nat} : (a : Int) - (a : Int).tdiv (b : Int) * (b : Int) = ((a % b : Nat) : Int) := by
  have h1 : ((a % b : Nat) : Int) = (a : Int) % (b : Int) := rfl
  rw [Int.tdiv_eq_ediv_of_nonneg (Int.natCast_nonneg a), h1, Int.emod_def, Int.mul_comm]
theorem go_iremN {a b : Nat} (hd : decode y.2.1 pc = .ok (.irem, 1)) (ha : (a : Int) < 2147483648) (hb : (b : Int) < 2147483648) (h : 0 < b) (K : go z d kc ks y Q X (pc + 1) ls (.int (iI ((a % b : Nat) : Int)) :: st) μ) : go z d kc ks y Q X pc ls (.int (iI (b : Int)) :: .int (iI (a : Int)) :: st) μ :=
  go_irem hd ⟨by omega, ha⟩ ⟨by omega, hb⟩ (by omega) (by rw [rem_nat]; exact K)
theorem go_idivN {a b : Nat} (hd : decode y.2.1 pc = .ok (.idiv, 1)) (ha : (a : Int) < 2147483648) (hb : (b : Int) < 2147483648) (h : 0 < b) (K : go z d kc ks y Q X (pc + 1) ls (.int (iI ((a / b : Nat) : Int)) :: st) μ) : go z d kc ks y Q X pc ls (.int (iI (b : Int)) :: .int (iI (a : Int)) :: st) μ :=
  go_idiv hd ⟨by omega, ha⟩ ⟨by omega, hb⟩ (by omega) (by rw [Int.tdiv_eq_ediv_of_nonneg (Int.natCast_nonneg a)]; exact K)
theorem iI_natW {n : Nat} (h : n < 2147483648) : (iI (n : Int)).toBitVec.toNat = n := by
  rw [← iI_of h]
  exact pk_tn (by omega)
theorem and16 (a : Int) : ∃ k : Nat, k < 65536 ∧ iI a &&& iI 65535 = iI (k : Nat) := by
  have h : ((iI a).toBitVec &&& (iI 65535).toBitVec).toNat ≤ 65535 := by
    rw [BitVec.toNat_and]
    exact Nat.le_trans Nat.and_le_right (by decide)
  refine ⟨((iI a).toBitVec &&& (iI 65535).toBitVec).toNat, by omega, ?_⟩
  apply i32_ext
  rw [iI_natW (by omega)]
  rfl
theorem xor_i (a b : Int) : iI a ^^^ iI b = iI (iI a ^^^ iI b).toInt := (iI_as _).symm
theorem ic_L_7 : Cond.constant RL 7 40503 ∈ aw := tb_in 848 (by decide +kernel) (by decide +kernel)
theorem ic_L_14 : Cond.constant RL 14 65535 ∈ aw := tb_in 849 (by decide +kernel) (by decide +kernel)
set_option maxRecDepth 8000 in
set_option maxHeartbeats 4000000 in
theorem l_cell (hL : L ≤ 300) {k : Nat} (hk : k < 100000) {Q : Option Value → Mem → Prop} {X : String → Mem → Prop} (K : ∀ v : Int, Q (some (.int (iI v))) μ) : mt 0 0 0 0 (mL_cell L xs) [.ref 6000, .int (iI (k : Nat))] Q X μ := by
  show go 0 0 0 0 (mL_cell L xs) Q X 0 [.ref 6000, .int (iI (k : Nat))] [] _
  refine go_aload_n (y := (mL_cell L xs)) (pc := 0) dL_cell_0 rfl rfl ?_
  refine go_slen (y := (mL_cell L xs)) (pc := 1) dL_cell_1 rfl (by omega) ?_
  refine go_if_ne (y := (mL_cell L xs)) (pc := 2) (tgt := 9) dL_cell_2 (by decide) (by omega) (fun h2 => ?_) (fun h2 => ?_)
  · skip
    refine go_aload_n (y := (mL_cell L xs)) (pc := 9) dL_cell_9 rfl rfl ?_
    refine go_iload_n (y := (mL_cell L xs)) (pc := 10) dL_cell_10 rfl rfl ?_
    refine go_aload_n (y := (mL_cell L xs)) (pc := 11) dL_cell_11 rfl rfl ?_
    refine go_slen (y := (mL_cell L xs)) (pc := 12) dL_cell_12 rfl (by omega) ?_
    refine go_iremN (y := (mL_cell L xs)) (pc := 13) (a := k) (b := L) dL_cell_13 (by omega) (by omega) (by omega) ?_
    refine go_sld (y := (mL_cell L xs)) (pc := 14) (k := (k % L)) dL_cell_14 rfl rfl (Nat.mod_lt _ (by omega)) (by omega) ?_
    refine go_ldcI (y := (mL_cell L xs)) (pc := 15) (w := 40503) dL_cell_15 ic_L_7 (by decide) ?_
    refine go_iload_n (y := (mL_cell L xs)) (pc := 17) dL_cell_17 rfl rfl ?_
    refine go_aload_n (y := (mL_cell L xs)) (pc := 18) dL_cell_18 rfl rfl ?_
    refine go_slen (y := (mL_cell L xs)) (pc := 19) dL_cell_19 rfl (by omega) ?_
    refine go_idivN (y := (mL_cell L xs)) (pc := 20) (a := k) (b := L) dL_cell_20 (by omega) (by omega) (by omega) ?_
    refine go_imul (y := (mL_cell L xs)) (pc := 21) dL_cell_21 ?_
    refine go_ixor (y := (mL_cell L xs)) (pc := 22) dL_cell_22 (v := (iI (xs (k % L)).toInt ^^^ iI (40503 * ((k / L : Nat) : Int))).toInt) (xor_i _ _) ?_
    exact go_ireturn (y := mL_cell L xs) (pc := 23) dL_cell_23 rfl (K _)
  · skip
    refine go_iconst (y := (mL_cell L xs)) (pc := 5) dL_cell_5 ?_
    refine go_goto (y := (mL_cell L xs)) (pc := 6) (tgt := 23) dL_cell_6 (by decide) ?_
    exact go_ireturn (y := mL_cell L xs) (pc := 23) dL_cell_23 rfl (K _)
set_option maxRecDepth 8000 in
set_option maxHeartbeats 4000000 in
theorem l_pick (hL : L ≤ 300) {k : Nat} (hk : k < 100000) {n : Nat} (hn : 0 < n ∧ n < 100000) {Q : Option Value → Mem → Prop} {X : String → Mem → Prop} (K : ∀ v : Nat, v < n → Q (some (.int (iI (v : Nat)))) μ) : mt 0 1 0 0 (mL_pick L xs) [.ref 6000, .int (iI (k : Nat)), .int (iI (n : Nat))] Q X μ := by
  show go 0 1 0 0 (mL_pick L xs) Q X 0 [.ref 6000, .int (iI (k : Nat)), .int (iI (n : Nat))] [] _
  refine go_aload_n (y := (mL_pick L xs)) (pc := 0) dL_pick_0 rfl rfl ?_
  refine go_iload_n (y := (mL_pick L xs)) (pc := 1) dL_pick_1 rfl rfl ?_
  refine go_callSs2 (y := (mL_pick L xs)) (pc := 2) (y' := (mL_cell L xs)) (kc2 := 0) (ks2 := 0) dL_pick_2 ml_L_8 rfl ok_L_cell ⟨rfl, rfl⟩ ⟨Nat.le_of_ble_eq_true rfl, by decide, by decide, by decide, by decide⟩ (Nat.le_of_ble_eq_true rfl) rfl (l_cell hL (by omega) (fun v2 => ?_))
  refine go_ldcI (y := (mL_pick L xs)) (pc := 5) (w := 65535) dL_pick_5 ic_L_14 (by decide) ?_
  obtain ⟨a, ha, e7⟩ := and16 v2
  refine go_iand (y := (mL_pick L xs)) (pc := 7) dL_pick_7 (v := ((a : Nat) : Int)) e7 ?_
  refine go_iload_n (y := (mL_pick L xs)) (pc := 8) dL_pick_8 rfl rfl ?_
  refine go_iremN (y := (mL_pick L xs)) (pc := 9) (a := a) (b := n) dL_pick_9 (by omega) (by omega) (by omega) ?_
  exact go_ireturn (y := mL_pick L xs) (pc := 10) dL_pick_10 rfl (K _ (Nat.mod_lt _ hn.1))
end Script
