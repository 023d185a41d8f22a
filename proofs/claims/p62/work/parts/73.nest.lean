/-! PRIVATE METHODS OF A NEST MATE -/
section
variable {p : Program} {l : Launch} {e : Env} {R : Room} {s : State} {m : MethodId} {args : Array Value} {below : List Frame} {meth : Method} {c : Code} {H : Heap} {locs : List Loc} {cells slots : Nat}
variable {T : State}
theorem vx_callVN (X : Stand p l e R s m args below meth c T locs cells slots) (hexec : p.tables.exec = Jvm.exec) {own C : String} {index : Nat} {host : String} {y : MethodName} {bytes : ByteArray} {maxL : Nat} {ret : Option FieldType}
    (hown : s.vm.findClass own = some m.cls) (hlink : (Cond.methodLinkNest own index y host).before args s = true) (hinst : (Cond.instanceMethod y).before args s = true) (hsel : (Cond.selects C y y).before args s = true)
    (hcode : (Cond.code y bytes maxL ret).before args s = true) (hy : y.cls ≠ "java/lang/invoke/MethodHandle" ∧ y.cls ≠ "java/lang/invoke/VarHandle")
    {W : Nat} {Pre : Pt → Array Value → Prop} {Post : Pt → Array Value → Option Value → Pt → Prop} {PostX : Pt → Array Value → Addr → Pt → Prop} (hK : vx_Back l R p e below s args y 3 W Pre Post PostX)
    {b : Addr} {cellB : Cell} (hcell : T.heap[b]? = some cellB) (hobj : cellB.vm.isStatics = false) (hcls : s.vm.findClass C = some cellB.cls)
    {g : JFrame} (hg : g.method = m) (hsize : g.locals.size = c.maxLocals) {argsL rest : List Value} (hlen : ∀ sig, parseMethodDescriptor y.desc = some sig → argsL.length = sig.parameters.length)
    (hstack : g.stack = argsL.reverse ++ .ref b :: rest) (hW : 2 * g.monitorRoom + (rest.map fun v => v.category).sum ≤ W) (hdg : decode c.code g.pc = .ok (.invokevirtual index, 3))
    (hpre : ∀ vm₁, s.WarmedH vm₁ → Pre ⟨T.setVm vm₁, locs, cells, slots⟩ (Value.ref b :: argsL).toArray) :
    (∃ (v : Option Value) (vm₁ : Vm) (B : Pt), s.WarmedH vm₁ ∧ Stand p l e R s m args below meth c B.U B.locs B.cells B.slots ∧ Post ⟨T.setVm vm₁, locs, cells, slots⟩ (Value.ref b :: argsL).toArray v B ∧
      ∀ target, Steps p.tables e below (B.U.setTop { g with pc := g.pc + 3, stack := v.toList ++ rest }) target → Steps p.tables e below (T.setTop g) target) ∨
    (∃ (q : Addr) (vm₁ : Vm) (B : Pt), s.WarmedH vm₁ ∧ Stand p l e R s m args below meth c B.U B.locs B.cells B.slots ∧ PostX ⟨T.setVm vm₁, locs, cells, slots⟩ (Value.ref b :: argsL).toArray q B ∧
      Steps p.tables e below (T.setTop g) ((B.U.setTop { g with stack := rest }).pushFrame (.throwing q))) := by
  obtain ⟨mk, methM, hnamed, hmethM, hstM, habM⟩ := Cond.instanceMethod_spec hinst
  obtain ⟨methM', cM, hmethM', -, -, -, -, -, -, hsigM⟩ := Cond.code_spec hnamed hcode
  cases hmethM.symm.trans hmethM'
  obtain ⟨c2, r2, m2, q1, q2, q3, q4, kP, hkP, hkPi⟩ := Cond.selects_spec hsel
  cases hcls.symm.trans q1
  cases (State.methodFound?_of_named hnamed hy).symm.trans q2
  cases hnamed.symm.trans q3
  have hselP : selectMethod e.platform s.vm cellB.cls mk = .method mk := by rw [Launch.admits_selectMethod X.admits]; exact q4
  obtain ⟨vm₁, X₁, hstep₁⟩ := X.invokevirtualNest hexec hown hlink hnamed hmethM hstM hkP hkPi hy (a := b) (cell := cellB) hcell
    (fun z h => by rw [h] at hobj; cases hobj) hselP hmethM habM hkP hkPi (g := g) hg (argsL := argsL) (rest := rest) (hlen _ hsigM) hstack hdg
  rcases hK m meth c ⟨T.setVm vm₁, locs, cells, slots⟩ { g with stack := rest } (.invokevirtual index) mk (Value.ref b :: argsL).toArray X₁ hg hsize hdg hW (X₁.named hnamed) (hpre vm₁ X₁.warmed) with ⟨v, B, X', hpost, hsteps⟩ | ⟨q, B, X', hpost, hsteps⟩
  · exact Or.inl ⟨v, vm₁, B, X₁.warmed, X', hpost, fun target h => hstep₁ _ fun acts => by rw [doInvoke_state]; exact hsteps.trans h⟩
  · exact Or.inr ⟨q, vm₁, B, X₁.warmed, X', hpost, hstep₁ _ fun acts => by rw [doInvoke_state]; exact hsteps⟩
theorem vx_runVN {y : MethodName} {bytes cc : ByteArray} {maxL nL mc ms n index : Nat} {ret : Option FieldType} {ws : List Cond} {rm : Room} {Pc : Array Value → State → Prop} {Qc : Array Value → State → Outcome → State → Prop} {XC : String → State → State → Prop} {free : Addr → Prop} {Ts : List Cond} {own C host : String} {b : Addr} {As rest : List Value} {g : JFrame}
    (S : CallFix p m c cc nL s args Ts own) (hM : vx_Met l y ws rm Pc Qc XC mc ms free) (cw : va_CN R s args own index y host bytes maxL ret ws rm mc ms n ∧ (Cond.instanceMethod y).before args s = true ∧ (Cond.selects C y y).before args s = true) (hp : PreV s H C b Pc As)
    (hg : g.method = m) (hn : As.length = n) (hsize : g.locals.size = nL) (hstack : g.stack = As.reverse ++ .ref b :: rest) (hW : 2 * g.monitorRoom + (rest.map fun v => v.category).sum ≤ 8) (hdg : decode cc g.pc = .ok (.invokevirtual index, 3)) (hf : cells + mc ≤ R.cells ∧ slots + ms ≤ R.slots) :
    vx_Run p l e R s m args below meth c H locs cells slots mc ms g rest (Qc (Value.ref b :: As).toArray) XC free := by
  obtain ⟨⟨⟨hrc, hrs, hfr, hlo, hws, hcw⟩, hcode, hini, hy, hlen, hl⟩, hx1, hx2⟩ := cw
  have hK : vx_Back l R p e below s args y 3 8 (PreOf R mc ms Pc) (PostOf Qc mc ms free) (vx_Post XC mc ms free) := vx_back (bytes := bytes) (maxL := maxL) (ret := ret) hM hp.1 hrc hrs hfr hlo hws hcw (fun a' U hW => word_at hW (Or.inl (by first | rfl | simp [Cond.onTables, Cond.keeps, Cond.steady])) hini)
  obtain ⟨hx, hb, hml, ho, -⟩ := S
  obtain ⟨-, ⟨cellB, hcB, hoB, hclB⟩, hPc⟩ := hp
  intro T hT X
  rcases vx_callVN X hx (C := C) (bytes := bytes) (maxL := maxL) (ret := ret) ho hl hx1 hx2 hcode hy hK (by rw [hT]; exact hcB) hoB hclB hg (hsize.trans hml.symm) (argsL := As) (rest := rest) (fun sig h => hn.trans (hlen sig h)) hstack hW (by rw [hb]; exact hdg)
    (fun vm₁ hW₁ => ⟨hf.1, hf.2, hPc (T.setVm vm₁) hT hW₁⟩) with ⟨v, vm₁, ⟨U', l2, c2, s2⟩, hW₁, X', ⟨g', mk, t, L, e1, e2, hq, h1, hL, h2, h3⟩, st⟩ | ⟨q, vm₁, ⟨U', l2, c2, s2⟩, hW₁, X', ⟨g', mk, t, L, E, ce, e1, e2, hq, hce, hcv, hcl, h1, hL, h2, h3⟩, st⟩
  · dsimp only [Pt.U, Pt.locs, Pt.cells, Pt.slots] at X' e1 e2 h1 h2 h3 st
    subst h1; subst h2; subst h3
    exact Or.inl ⟨v, (T.setVm vm₁).calling g' mk (Value.ref b :: As).toArray, t, U', L, hT, X', hL, e1, e2, hq, st⟩
  · dsimp only [Pt.U, Pt.locs, Pt.cells, Pt.slots] at X' e1 e2 h1 h2 h3 st hcl
    subst h1; subst h2; subst h3
    exact Or.inr ⟨q, (T.setVm vm₁).calling g' mk (Value.ref b :: As).toArray, t, U', L, E, ce, hT, X', hL, e1, e2, hq, hce, hcv, vx_cls hW₁ hcl, st⟩
end
section CallsN
variable {z d kc ks : Nat} {y : MI} {Q : Option Value → Mem → Prop} {X : String → Mem → Prop} {pc : Nat} {ls st : List Value} {μ : Mem}
theorem go_callVN {z' d' kc' ks' kc2 ks2 b idx n ci : Nat} {y' : MI} {as rest : List Value} {fs : List (Option Nat)} (hd : decode y.2.1 pc = .ok (.invokevirtual idx, 3)) (hst : st = as.reverse ++ .ref b :: rest) (hlk : Cond.methodLinkNest y.1.cls idx y'.1 RX10 ∈ fw) (hm : mokV y' n) (hs : shp b = (0, ci, fs)) (hcl : ∃ T N, vwCl[ci]? = some (y'.1.cls, T, N)) (hb : b < z)
    (hn : as.length = n) (hl' : n + 1 ≤ y'.2.2.1) (hcat : ∀ v ∈ as, v.category = 1) (hW : (rest.map fun v => v.category).sum ≤ 8) (hz : z' ≤ z) (hdd : d' + 1 ≤ d) (hk : kc' + kc2 ≤ kc) (hks : ks' + ks2 ≤ ks) (hh : y.2.2.2.2.1 = [])
    (K : mt z' d' kc' ks' y' (.ref b :: as) (fun r μ' => go z d kc2 ks2 y Q X (pc + 3) ls (psh r rest) μ') X μ) : go z d kc ks y Q X pc ls st μ := by
  subst hst
  intro p l e R s m args below meth c D cy X0 mc ms nn ad hc H locs cells slots lsA dv hw hS hl h1 h2
  obtain ⟨c1, c2, c3, c4, c5, c6, c7, c8, c9, c10, c11, c12, c13, c14, c15, c16, c17, c18, c19⟩ := id hc
  obtain ⟨⟨k1, k2, k3, k4, k5, k6, k9⟩, k7, k8⟩ := hm
  obtain ⟨TT, NN, hcl⟩ := hcl
  have hM := mt_vx (l := l) (D := D) (cy := cy) (X0 := X0) (n := nn) (ad := ad) (dv := dv) K k3 k6 k9 (by simp; omega) (by simpa using ⟨rfl, hcat⟩) c18 (by omega) c10
  have hcw : va_CN R s args y.1.cls idx y'.1 RX10 y'.2.1 y'.2.2.1 y'.2.2.2.1 (wsa y') (rmd d' kc' ks') kc' ks' n ∧ (Cond.instanceMethod y'.1).before args s = true ∧ (Cond.selects y'.1.cls y'.1 y'.1).before args s = true :=
    ⟨va_cnB n c6 (good_wsa k1) rfl rfl rfl (c8.2.2.2.2.2.2.2.2.2.2 _ hlk) (c6 _ k2) k4 ⟨by show d' + 1 ≤ _; omega, by show 8 + (y'.2.2.1 + 11) + 40 * d' ≤ _; omega⟩, c6 _ k7, c6 _ k8⟩
  obtain ⟨hR, E, hE, hP, hD⟩ := id hw
  have he : (wsl cy dv ad μ nn ++ E)[b]? = some (ad b, .inr (ci, flv ad μ b 0 fs)) := by rw [wsl_get (by omega), ent_0 hs]
  have hp : PreV s H y'.1.cls (ad b) (gP D cy X0 nn ad dv μ (.ref b :: as)) (as.map (av_l ad)) :=
    ⟨gP_blind, va_recv c8.1 hP hcl he, fun U hU hWU => ⟨rfl, by rw [hU]; exact hw, by rw [hU]; exact kx_moved hWU hS c8, by rw [hU]; exact AX_le c15 hS.1⟩⟩
  refine go_backH (kc' := kc') (ks' := ks') (kc2 := kc2) (ks2 := ks2) (rest := rest) hc hS hl (by omega) (by omega) (a := (Value.ref (ad b) :: as.map (av_l ad)).toArray) (go_thru hc hh (kc2 := kc2) (ks2 := ks2) (by omega) (by omega)) ?_
  refine vx_runVN (As := as.map (av_l ad)) (b := ad b) (nL := y.2.2.1) ⟨c1, c2, c4, c5, c6⟩ hM hcw hp rfl (by rw [List.length_map]; exact hn) hl.1 ?_ (lv_room (by rw [av_sum]; exact hW)) hd ⟨by omega, by omega⟩
  simp [List.map_append, List.map_reverse, av_l]
theorem go_callVN3 {z' d' kc' ks' kc2 ks2 b idx ci : Nat} {y' : MI} {a1 a2 a3 : Value} {rest : List Value} {fs : List (Option Nat)} (hd : decode y.2.1 pc = .ok (.invokevirtual idx, 3)) (hlk : Cond.methodLinkNest y.1.cls idx y'.1 RX10 ∈ fw) (hm : mokV y' 3) (hs : shp b = (0, ci, fs)) (hcl : ∃ T N, vwCl[ci]? = some (y'.1.cls, T, N)) (hb : b < z)
    (hcat : a1.category = 1 ∧ a2.category = 1 ∧ a3.category = 1) (hq : 3 + 1 ≤ y'.2.2.1 ∧ z' ≤ z ∧ d' + 1 ≤ d ∧ kc' + kc2 ≤ kc ∧ ks' + ks2 ≤ ks) (hW : (rest.map fun v => v.category).sum ≤ 8) (hh : y.2.2.2.2.1 = [])
    (K : mt z' d' kc' ks' y' [.ref b, a1, a2, a3] (fun r μ' => go z d kc2 ks2 y Q X (pc + 3) ls (psh r rest) μ') X μ) : go z d kc ks y Q X pc ls (a3 :: a2 :: a1 :: .ref b :: rest) μ :=
  go_callVN (as := [a1, a2, a3]) hd rfl hlk hm hs hcl hb rfl hq.1 (by intro v hv; simp only [List.mem_cons, List.not_mem_nil, or_false] at hv; obtain ⟨h1, h2, h3⟩ := hcat; rcases hv with rfl | rfl | rfl <;> assumption) hW hq.2.1 hq.2.2.1 hq.2.2.2.1 hq.2.2.2.2 hh K
theorem go_callVN4 {z' d' kc' ks' kc2 ks2 b idx ci : Nat} {y' : MI} {a1 a2 a3 a4 : Value} {rest : List Value} {fs : List (Option Nat)} (hd : decode y.2.1 pc = .ok (.invokevirtual idx, 3)) (hlk : Cond.methodLinkNest y.1.cls idx y'.1 RX10 ∈ fw) (hm : mokV y' 4) (hs : shp b = (0, ci, fs)) (hcl : ∃ T N, vwCl[ci]? = some (y'.1.cls, T, N)) (hb : b < z)
    (hcat : a1.category = 1 ∧ a2.category = 1 ∧ a3.category = 1 ∧ a4.category = 1) (hq : 4 + 1 ≤ y'.2.2.1 ∧ z' ≤ z ∧ d' + 1 ≤ d ∧ kc' + kc2 ≤ kc ∧ ks' + ks2 ≤ ks) (hW : (rest.map fun v => v.category).sum ≤ 8) (hh : y.2.2.2.2.1 = [])
    (K : mt z' d' kc' ks' y' [.ref b, a1, a2, a3, a4] (fun r μ' => go z d kc2 ks2 y Q X (pc + 3) ls (psh r rest) μ') X μ) : go z d kc ks y Q X pc ls (a4 :: a3 :: a2 :: a1 :: .ref b :: rest) μ :=
  go_callVN (as := [a1, a2, a3, a4]) hd rfl hlk hm hs hcl hb rfl hq.1 (by intro v hv; simp only [List.mem_cons, List.not_mem_nil, or_false] at hv; obtain ⟨h1, h2, h3, h4⟩ := hcat; rcases hv with rfl | rfl | rfl | rfl <;> assumption) hW hq.2.1 hq.2.2.1 hq.2.2.2.1 hq.2.2.2.2 hh K
end CallsN
theorem fw_in {w : Cond} (i : Nat) (h : tables_1[i]? = some w) (hg : fgood w = true) : w ∈ fw := List.mem_filter.mpr ⟨List.mem_append_right _ (List.mem_of_getElem? h), hg⟩
