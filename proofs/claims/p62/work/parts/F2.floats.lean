/-! methods of a class whose name the machine treats in its own way -/
theorem vx_ofWF {l : Launch} {y : MethodName} {ws ws' : List Cond} {rm : Room} {Pc : Array Value → State → Prop} {Qc : Array Value → State → Outcome → State → Prop} {XC : String → State → State → Prop} {mc ms : Nat} {free : Addr → Prop} {cc : ByteArray} {maxL : Nat} {ret : Option FieldType}
    (hy : plainFor y = true) (hw : ws = Cond.code y cc maxL ret :: ws')
    (body : ∀ p e s m args below meth c s₁, BodyLoose p l y (headSpec ws rm) cc maxL ret e s m args below meth c s₁ → c.maxLocals = maxL → (∀ x ∈ c.exceptionTable.toList, False) → Pc args s →
      W p l e (headSpec ws rm).room s m args below meth c s.heap [] 0 0 (vx_MQ below Qc XC args s mc ms free) (entryFrame m args maxL)) : vx_Met l y ws rm Pc Qc XC mc ms free := by
  refine MetFree.of_bodySF (code := cc) (maxLocals := maxL) (ret := ret) hy ?_ ?_
  · intro args s m h hn
    obtain ⟨meth, c, h1, h2, h3, h4, h5, h6, -, -⟩ := Cond.code_spec hn (atoms_spec (ws := ws) h _ (by rw [hw]; exact List.mem_cons_self))
    exact ⟨meth, c, h1, h2, h3, h4, h5, h6⟩
  · intro p e s m args below meth c s₁ B hml hP _
    have hh0 : s₁.heap = s.heap := by rw [B.state]; rfl
    have ht : ∀ x ∈ c.exceptionTable.toList, False := by
      obtain ⟨meth9, c9, h1, h2, -, -, -, -, h7, -⟩ := Cond.code_spec B.named (atoms_spec (ws := ws) B.pre _ (by rw [hw]; exact List.mem_cons_self))
      cases Option.some.inj (h1.symm.trans B.method)
      cases Option.some.inj (h2.symm.trans (Stand.of_body B).code)
      intro x hx
      rw [Array.isEmpty_iff.mp h7] at hx
      cases hx
    obtain ⟨t, a1, o, b1, b2, b3⟩ := body p e s m args below meth c s₁ B hml ht hP s₁ hh0 (Stand.of_body B)
    exact ⟨t, o, a1, b1, b2, b3⟩
def mokSF (y : MI) (n : Nat) : Prop := (Cond.code y.1 y.2.1 y.2.2.1 y.2.2.2.1 ∈ aw ∧ Cond.initialized y.1.cls ∈ aw ∧ plainFor y.1 = true ∧ (y.1.cls ≠ "java/lang/invoke/MethodHandle" ∧ y.1.cls ≠ "java/lang/invoke/VarHandle" ∧ (parseMethodDescriptor y.1.desc).map (fun d => d.parameters.length) = some n) ∧ y.2.2.1 ≤ 20 ∧ y.2.2.2.2.1 = [] ∧ y.2.2.2.2.2 = none) ∧ Cond.static y.1 ∈ aw
theorem mt_vxF {z d kc ks : Nat} {y : MI} {as : List Value} {Q : Option Value → Mem → Prop} {X : String → Mem → Prop} {μ : Mem} (h : mt z d kc ks y as Q X μ) (hp : plainFor y.1 = true) (hh : y.2.2.2.2.1 = []) (hsc : y.2.2.2.2.2 = none) (hl : as.length ≤ y.2.2.1) (hc : ∀ v ∈ as, v.category = 1)
    {l : Launch} (hst : l.stackTraces = false) {D : va_G} {cy : Nat → ClassId} {X0 : Nat → Prop} {n : Nat} {ad : Nat → Nat} {dv : UInt64} (hz : z ≤ n) (hn : n ≤ 400) :
    vx_Met l y.1 (wsa y) (rmd d kc ks) (gP D cy X0 n ad dv μ as) (gQ D cy X0 n ad Q) (gX D cy X0 n ad X) kc ks X0 := by
  refine vx_ofWF (cc := y.2.1) (maxL := y.2.2.1) (ret := y.2.2.2.1) hp rfl ?_
  intro p e s m args below meth c s₁ B hml htb hv
  obtain ⟨rfl, hw, hk, hX⟩ := hv
  have ht : c.exceptionTable.toList = tableOf y.2.2.2.2.1 := by
    rw [hh]
    cases hx : c.exceptionTable.toList with
    | nil => rfl
    | cons a r => exact (htb a (by rw [hx]; exact List.mem_cons_self)).elim
  rw [lg_entry_eq]
  exact go_use h (l := l) (R := (headSpec (wsa y) (rmd d kc ks)).room) ⟨B.exec, B.bytes, B.returns, hml, findClass_of_methodNamed B.named, fun w hw => atoms_spec (ws := wsa y) B.pre w (List.mem_cons_of_mem _ hw), B.notSynchronized, hk, hz, hn, Nat.le_refl d, Nat.le_refl (40 * d), Nat.le_refl kc, Nat.le_refl ks, hX, ht, (name_of_methodNamed B.named B.method).1, hst, fun L xs => ⟨fun e => (by rw [hsc] at e; cases e), fun e => (by rw [hsc] at e; cases e)⟩⟩
    hw va_S.rf (lh_entry hl hc) (by omega) (by omega)
section CallsF
variable {z d kc ks : Nat} {y : MI} {Q : Option Value → Mem → Prop} {X : String → Mem → Prop} {pc : Nat} {ls st : List Value} {μ : Mem}
theorem go_callSF {z' d' kc' ks' kc2 ks2 idx n : Nat} {y' : MI} {as rest : List Value} (hd : decode y.2.1 pc = .ok (.invokestatic idx, 3)) (hst : st = as.reverse ++ rest) (hlk : Cond.methodLink y.1.cls idx y'.1 ∈ aw) (hm : mokSF y' n)
    (hn : as.length = n) (hl' : n ≤ y'.2.2.1) (hcat : ∀ v ∈ as, v.category = 1) (hW : (rest.map fun v => v.category).sum ≤ 8) (hz : z' ≤ z) (hdd : d' + 1 ≤ d) (hk : kc' + kc2 ≤ kc) (hks : ks' + ks2 ≤ ks) (hh : y.2.2.2.2.1 = [])
    (K : mt z' d' kc' ks' y' as (fun r μ' => go z d kc2 ks2 y Q X (pc + 3) ls (psh r rest) μ') X μ) : go z d kc ks y Q X pc ls st μ := by
  subst hst
  intro p l e R s m args below meth c D cy X0 mc ms nn ad hc H locs cells slots lsA dv hw hS hl h1 h2
  obtain ⟨c1, c2, c3, c4, c5, c6, c7, c8, c9, c10, c11, c12, c13, c14, c15, c16, c17, c18, c19⟩ := id hc
  obtain ⟨⟨k1, k2, k3, k4, k5, k6, k9⟩, k7⟩ := hm
  have hM := mt_vxF (l := l) (D := D) (cy := cy) (X0 := X0) (n := nn) (ad := ad) (dv := dv) K k3 k6 k9 (by omega) hcat c18 (by omega) c10
  have hcw : CallB R s args y.1.cls idx y'.1 y'.2.1 y'.2.2.1 y'.2.2.2.1 (wsa y') (rmd d' kc' ks') kc' ks' n ∧ (Cond.static y'.1).before args s = true :=
    ⟨callB_of n c6 (good_wsa k1) rfl rfl rfl (c6 _ k2) (c6 _ hlk) k4 ⟨by show d' + 1 ≤ _; omega, by show 8 + (y'.2.2.1 + 11) + 40 * d' ≤ _; omega⟩, c6 _ k7⟩
  have hp : PreS s H (gP D cy X0 nn ad dv μ as) (as.map (av_l ad)) :=
    ⟨gP_blind, fun U hU hWU => ⟨rfl, by rw [hU]; exact hw, by rw [hU]; exact kx_moved hWU hS c8, by rw [hU]; exact AX_le c15 hS.1⟩⟩
  refine go_backH (kc' := kc') (ks' := ks') (kc2 := kc2) (ks2 := ks2) (rest := rest) hc hS hl (by omega) (by omega) (a := (as.map (av_l ad)).toArray) (go_thru hc hh (kc2 := kc2) (ks2 := ks2) (by omega) (by omega)) ?_
  refine vx_runS (As := as.map (av_l ad)) (nL := y.2.2.1) ⟨c1, c2, c4, c5, c6⟩ hM hcw hp rfl (by rw [List.length_map]; exact hn) hl.1 ?_ (lv_room (by rw [av_sum]; exact hW)) hd ⟨by omega, by omega⟩
  simp [List.map_append, List.map_reverse]
theorem go_callSF1 {z' d' kc' ks' kc2 ks2 idx : Nat} {y' : MI} {a1 : Value} {rest : List Value} (hd : decode y.2.1 pc = .ok (.invokestatic idx, 3)) (hlk : Cond.methodLink y.1.cls idx y'.1 ∈ aw) (hm : mokSF y' 1)
    (hcat : a1.category = 1) (hq : 1 ≤ y'.2.2.1 ∧ z' ≤ z ∧ d' + 1 ≤ d ∧ kc' + kc2 ≤ kc ∧ ks' + ks2 ≤ ks) (hW : (rest.map fun v => v.category).sum ≤ 8) (hh : y.2.2.2.2.1 = [])
    (K : mt z' d' kc' ks' y' [a1] (fun r μ' => go z d kc2 ks2 y Q X (pc + 3) ls (psh r rest) μ') X μ) : go z d kc ks y Q X pc ls (a1 :: rest) μ :=
  go_callSF (as := [a1]) hd rfl hlk hm rfl hq.1 (by intro v hv; simp only [List.mem_cons, List.not_mem_nil, or_false] at hv; have h1 := hcat; rcases hv with rfl <;> assumption) hW hq.2.1 hq.2.2.1 hq.2.2.2.1 hq.2.2.2.2 hh K
end CallsF
theorem dJxf58ca_isNaN_12338_0 : decode cJxf58ca_isNaN_12338 0 = .ok (.fload_n 0, 1) := by decide +kernel
theorem dJxf58ca_isNaN_12338_1 : decode cJxf58ca_isNaN_12338 1 = .ok (.fload_n 0, 1) := by decide +kernel
theorem dJxf58ca_isNaN_12338_2 : decode cJxf58ca_isNaN_12338 2 = .ok (.fcmp .l, 1) := by decide +kernel
theorem dJxf58ca_isNaN_12338_3 : decode cJxf58ca_isNaN_12338 3 = .ok (.ifCond .eq 7, 3) := by decide +kernel
theorem dJxf58ca_isNaN_12338_6 : decode cJxf58ca_isNaN_12338 6 = .ok (.iconst 1, 1) := by decide +kernel
theorem dJxf58ca_isNaN_12338_7 : decode cJxf58ca_isNaN_12338 7 = .ok (.goto 4, 3) := by decide +kernel
theorem dJxf58ca_isNaN_12338_10 : decode cJxf58ca_isNaN_12338 10 = .ok (.iconst 0, 1) := by decide +kernel
theorem dJxf58ca_isNaN_12338_11 : decode cJxf58ca_isNaN_12338 11 = .ok (.ireturn, 1) := by decide +kernel
def mJxf58ca_isNaN_12338 : MI := (yJxf58ca_isNaN_12338, cJxf58ca_isNaN_12338, 1, some .boolean, [], none)
theorem ok_Jxf58ca_isNaN_12338 : mokSF mJxf58ca_isNaN_12338 1 := ⟨⟨(tb_in 957 (by decide +kernel) (by decide +kernel)), (tb_in 30 (by decide +kernel) (by decide +kernel)), by decide +kernel, ⟨by decide +kernel, by decide +kernel, by decide +kernel⟩, by decide, rfl, rfl⟩, (tb_in 956 (by decide +kernel) (by decide +kernel))⟩
theorem dJxf58ca_floatToIntBits_5c35a_0 : decode cJxf58ca_floatToIntBits_5c35a 0 = .ok (.fload_n 0, 1) := by decide +kernel
theorem dJxf58ca_floatToIntBits_5c35a_1 : decode cJxf58ca_floatToIntBits_5c35a 1 = .ok (.invokestatic 59, 3) := by decide +kernel
theorem dJxf58ca_floatToIntBits_5c35a_4 : decode cJxf58ca_floatToIntBits_5c35a 4 = .ok (.ifCond .ne 8, 3) := by decide +kernel
theorem dJxf58ca_floatToIntBits_5c35a_7 : decode cJxf58ca_floatToIntBits_5c35a 7 = .ok (.fload_n 0, 1) := by decide +kernel
theorem dJxf58ca_floatToIntBits_5c35a_8 : decode cJxf58ca_floatToIntBits_5c35a 8 = .ok (.invokestatic 74, 3) := by decide +kernel
theorem dJxf58ca_floatToIntBits_5c35a_11 : decode cJxf58ca_floatToIntBits_5c35a 11 = .ok (.ireturn, 1) := by decide +kernel
theorem dJxf58ca_floatToIntBits_5c35a_12 : decode cJxf58ca_floatToIntBits_5c35a 12 = .ok (.ldc 77, 2) := by decide +kernel
theorem dJxf58ca_floatToIntBits_5c35a_14 : decode cJxf58ca_floatToIntBits_5c35a 14 = .ok (.ireturn, 1) := by decide +kernel
def mJxf58ca_floatToIntBits_5c35a : MI := (yJxf58ca_floatToIntBits_5c35a, cJxf58ca_floatToIntBits_5c35a, 1, some .int, [], none)
theorem ok_Jxf58ca_floatToIntBits_5c35a : mokSF mJxf58ca_floatToIntBits_5c35a 1 := ⟨⟨(tb_in 954 (by decide +kernel) (by decide +kernel)), (tb_in 30 (by decide +kernel) (by decide +kernel)), by decide +kernel, ⟨by decide +kernel, by decide +kernel, by decide +kernel⟩, by decide, rfl, rfl⟩, (tb_in 953 (by decide +kernel) (by decide +kernel))⟩
theorem ml_Jxf58ca_59 : Cond.methodLink RJxf58ca 59 yJxf58ca_isNaN_12338 ∈ aw := (tb_in 955 (by decide +kernel) (by decide +kernel))
def fRaw : MethodName := ⟨"java/lang/Float", "floatToRawIntBits", "(F)I"⟩
theorem fr_1 : Cond.methodLink RJxf58ca 74 fRaw ∈ aw := (tb_in 958 (by decide +kernel) (by decide +kernel))
theorem fr_2 : Cond.native fRaw ∈ aw := (tb_in 960 (by decide +kernel) (by decide +kernel))
theorem fr_3 : Cond.static fRaw ∈ aw := (tb_in 959 (by decide +kernel) (by decide +kernel))
theorem fr_4 : Cond.initialized "java/lang/Float" ∈ aw := (tb_in 30 (by decide +kernel) (by decide +kernel))
section Floats
variable {z d kc ks : Nat} {y : MI} {Q : Option Value → Mem → Prop} {X : String → Mem → Prop} {pc : Nat} {ls st : List Value} {μ : Mem}
theorem go_fload_n {k : Fin 4} {i : Nat} {x : UInt32} (hd : decode y.2.1 pc = .ok (.fload_n k, 1)) (hi : (k : Nat) = i) (hv : ls[i]? = some (.float x)) (K : go z d kc ks y Q X (pc + 1) ls (.float x :: st) μ) : go z d kc ks y Q X pc ls st μ := by
  intro p l e R s m args below meth c D cy X0 mc ms nn ad hc H locs cells slots lsA dv hw hS hl h1 h2
  exact lv_fload_n hc.1 hc.2.1 hd hi (lh_at hl hv (by intro h; cases h)) (go_use K hc hw hS hl h1 h2)
theorem go_fcmp {a b : UInt32} {op : CmpOp} {v : Int} (hd : decode y.2.1 pc = .ok (.fcmp op, 1)) (hv : Op.cmpValue (FP.fcmp a b) op = iI v) (K : go z d kc ks y Q X (pc + 1) ls (.int (iI v) :: st) μ) : go z d kc ks y Q X pc ls (.float b :: .float a :: st) μ := by
  intro p l e R s m args below meth c D cy X0 mc ms nn ad hc H locs cells slots lsA dv hw hS hl h1 h2
  refine lv_fcmp hc.1 hc.2.1 hd ?_
  rw [hv]
  exact go_use K hc hw hS hl h1 h2
theorem go_dcmp {a b : UInt64} {op : CmpOp} {v : Int} (hd : decode y.2.1 pc = .ok (.dcmp op, 1)) (hv : Op.cmpValue (FP.dcmp a b) op = iI v) (K : go z d kc ks y Q X (pc + 1) ls (.int (iI v) :: st) μ) : go z d kc ks y Q X pc ls (.double b :: .double a :: st) μ := by
  intro p l e R s m args below meth c D cy X0 mc ms nn ad hc H locs cells slots lsA dv hw hS hl h1 h2
  refine lv_dcmp hc.1 hc.2.1 hd ?_
  rw [hv]
  exact go_use K hc hw hS hl h1 h2
theorem go_f2i {b : UInt32} (hd : decode y.2.1 pc = .ok (.invokestatic 74, 3)) (hy : y.1.cls = RJxf58ca) (hdd : 1 ≤ d) (hW : (st.map fun v => v.category).sum ≤ 8) (K : go z d kc ks y Q X (pc + 3) ls (.int (iI b.toInt32.toInt) :: st) μ) : go z d kc ks y Q X pc ls (.float b :: st) μ := by
  intro p l e R s m args below meth c D cy X0 mc ms nn ad hc H locs cells slots lsA dv hw hS hl h1 h2
  obtain ⟨c1, c2, c3, c4, c5, c6, c7, c8, c9, c10, c11, c12, c13⟩ := id hc
  have h6 := c6 _ fr_1
  rw [← hy] at h6
  refine vn_f2i c1 c2 (c4.trans hl.1.symm) c5 h6 (c6 _ fr_2) (c6 _ fr_3) (c6 _ fr_4) (by omega) (by rw [av_sum]; omega) hd ?_
  have K2 := go_use K hc hw hS hl h1 h2 (e := e) (below := below)
  rw [iI_as] at K2
  exact K2
theorem j_isNaN {x : UInt32} (h0 : Op.cmpValue (FP.fcmp x x) .l = iI 0) (K : Q (some (.int (iI 0))) μ) : mt z 0 0 0 mJxf58ca_isNaN_12338 [.float x] Q X μ := by
  show go z 0 0 0 mJxf58ca_isNaN_12338 Q X 0 [.float x] [] _
  refine go_fload_n (y := mJxf58ca_isNaN_12338) (pc := 0) dJxf58ca_isNaN_12338_0 rfl rfl ?_
  refine go_fload_n (y := mJxf58ca_isNaN_12338) (pc := 1) dJxf58ca_isNaN_12338_1 rfl rfl ?_
  refine go_fcmp (y := mJxf58ca_isNaN_12338) (pc := 2) (v := 0) dJxf58ca_isNaN_12338_2 h0 ?_
  refine go_if_eq (y := mJxf58ca_isNaN_12338) (pc := 3) (tgt := 10) dJxf58ca_isNaN_12338_3 (by decide) (by decide) (fun _ => ?_) (fun h => absurd rfl h)
  refine go_iconst (y := mJxf58ca_isNaN_12338) (pc := 10) dJxf58ca_isNaN_12338_10 ?_
  exact go_zreturn (y := mJxf58ca_isNaN_12338) (pc := 11) dJxf58ca_isNaN_12338_11 rfl (Or.inl rfl) K
theorem j_f2ib {x : UInt32} (h0 : Op.cmpValue (FP.fcmp x x) .l = iI 0) (K : Q (some (.int (iI x.toInt32.toInt))) μ) : mt z 1 0 0 mJxf58ca_floatToIntBits_5c35a [.float x] Q X μ := by
  show go z 1 0 0 mJxf58ca_floatToIntBits_5c35a Q X 0 [.float x] [] _
  refine go_fload_n (y := mJxf58ca_floatToIntBits_5c35a) (pc := 0) dJxf58ca_floatToIntBits_5c35a_0 rfl rfl ?_
  refine go_callSF1 (y := mJxf58ca_floatToIntBits_5c35a) (pc := 1) (y' := mJxf58ca_isNaN_12338) (kc2 := 0) (ks2 := 0) dJxf58ca_floatToIntBits_5c35a_1 ml_Jxf58ca_59 ok_Jxf58ca_isNaN_12338 rfl ⟨by decide, Nat.le_refl _, by decide, by decide, by decide⟩ (Nat.le_of_ble_eq_true rfl) rfl (j_isNaN h0 ?_)
  refine go_if_ne (y := mJxf58ca_floatToIntBits_5c35a) (pc := 4) (tgt := 12) dJxf58ca_floatToIntBits_5c35a_4 (by decide) (by decide) (fun h => absurd rfl h) (fun _ => ?_)
  refine go_fload_n (y := mJxf58ca_floatToIntBits_5c35a) (pc := 7) dJxf58ca_floatToIntBits_5c35a_7 rfl rfl ?_
  refine go_f2i (y := mJxf58ca_floatToIntBits_5c35a) (pc := 8) dJxf58ca_floatToIntBits_5c35a_8 rfl (by decide) (by decide) ?_
  exact go_ireturn (y := mJxf58ca_floatToIntBits_5c35a) (pc := 11) dJxf58ca_floatToIntBits_5c35a_11 rfl K
end Floats
theorem ff_s1 : ∀ a : Fin 10, ∀ b : Fin 108, Op.cmpValue (FP.fcmp (FP.fdiv (FP.i2f (iI (a.val : Int))) (FP.i2f (iI ((b.val : Int) + 1)))) (FP.fdiv (FP.i2f (iI (a.val : Int))) (FP.i2f (iI ((b.val : Int) + 1))))) .l = iI 0 := by decide +kernel
theorem ff_s {x n : Int} (hx : 0 ≤ x ∧ x ≤ 9) (hn : 1 ≤ n ∧ n ≤ 108) : Op.cmpValue (FP.fcmp (FP.fdiv (FP.i2f (iI x)) (FP.i2f (iI n))) (FP.fdiv (FP.i2f (iI x)) (FP.i2f (iI n)))) .l = iI 0 := by
  have h := ff_s1 ⟨x.toNat, by omega⟩ ⟨(n - 1).toNat, by omega⟩
  rw [show (((⟨x.toNat, by omega⟩ : Fin 10).val : Int)) = x by show ((x.toNat : Nat) : Int) = x; omega, show (((⟨(n - 1).toNat, by omega⟩ : Fin 108).val : Int)) + 1 = n by show (((n - 1).toNat : Nat) : Int) + 1 = n; omega] at h
  exact h
theorem dd_s1 : ∀ a : Fin 481, ∀ b : Fin 12, Op.cmpValue (FP.dcmp (FP.ddiv (FP.i2d (iI ((a.val : Int) - 240))) (FP.i2d (iI ((b.val : Int) + 1)))) (FP.ddiv (FP.i2d (iI ((a.val : Int) - 240))) (FP.i2d (iI ((b.val : Int) + 1))))) .l = iI 0 := by decide +kernel
theorem dd_s {x n : Int} (hx : -240 ≤ x ∧ x ≤ 240) (hn : 1 ≤ n ∧ n ≤ 12) : Op.cmpValue (FP.dcmp (FP.ddiv (FP.i2d (iI x)) (FP.i2d (iI n))) (FP.ddiv (FP.i2d (iI x)) (FP.i2d (iI n)))) .l = iI 0 := by
  have h := dd_s1 ⟨(x + 240).toNat, by omega⟩ ⟨(n - 1).toNat, by omega⟩
  rw [show (((⟨(x + 240).toNat, by omega⟩ : Fin 481).val : Int)) - 240 = x by show (((x + 240).toNat : Nat) : Int) - 240 = x; omega, show (((⟨(n - 1).toNat, by omega⟩ : Fin 12).val : Int)) + 1 = n by show (((n - 1).toNat : Nat) : Int) + 1 = n; omega] at h
  exact h
