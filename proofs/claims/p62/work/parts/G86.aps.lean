/-! A TEXT IS APPENDED -/
theorem okI_t {y : MI} {n : Nat} {L : Nat} {xs : Nat → Int32} (h : mok y n ∧ Cond.instanceMethod y.1 ∈ aw) : mok0 (wt y L xs) n ∧ Cond.instanceMethod (wt y L xs).1 ∈ aw := ⟨⟨h.1.1, h.1.2.1, h.1.2.2.1, h.1.2.2.2.1, h.1.2.2.2.2.1, h.1.2.2.2.2.2.1⟩, h.2⟩
theorem okW_t {y : MI} {n : Nat} {L : Nat} {xs : Nat → Int32} (h : mokV y n) : mok0 (wt y L xs) n ∧ Cond.instanceMethod (wt y L xs).1 ∈ aw := ⟨(okV_t (L := L) (xs := xs) h).1, h.2.1⟩
theorem ml_J0_212 : Cond.methodLink RJ0 212 arraycopyName ∈ aw := tb_in 1549 (by decide +kernel) (by decide +kernel)
theorem ml_J7_150' : Cond.methodLink RJ7 150 arraycopyName ∈ aw := tb_in 1497 (by decide +kernel) (by decide +kernel)
section SBt
variable {z d kc ks : Nat} {y : MI} {Q : Option Value → Mem → Prop} {X : String → Mem → Prop} {pc : Nat} {ls st : List Value} {μ : Mem} {L : Nat} {xs : Nat → Int32}
theorem go_callOs {z' d' kc' ks' kc2 ks2 idx n : Nat} {y' : MI} {as rest : List Value} (hd : decode y.2.1 pc = .ok (.invokevirtual idx, 3)) (hst : st = as.reverse ++ .ref 5000 :: rest) (hlk : Cond.methodLink y.1.cls idx y'.1 ∈ aw) (hsc : y'.2.2.2.2.2 = y.2.2.2.2.2) (hm : mok0 y' n ∧ Cond.instanceMethod y'.1 ∈ aw) (hse : selO y'.1) (h276 : 276 ≤ z)
    (hn : as.length = n) (hl' : n + 1 ≤ y'.2.2.1) (hcat : ∀ v ∈ as, v.category = 1) (hW : (rest.map fun v => v.category).sum ≤ 8) (hz : z' ≤ z) (hdd : d' + 1 ≤ d) (hk : kc' + kc2 ≤ kc) (hks : ks' + ks2 ≤ ks) (hh : y.2.2.2.2.1 = [])
    (K : mt z' d' kc' ks' y' (.ref 5000 :: as) (fun r μ' => go z d kc2 ks2 y Q X (pc + 3) ls (psh r rest) μ') X μ) : go z d kc ks y Q X pc ls st μ := by
  subst hst
  intro p l e R s m args below meth c D cy X0 mc ms nn ad hc H locs cells slots lsA dv hw hS hl h1 h2
  obtain ⟨c1, c2, c3, c4, c5, c6, c7, c8, c9, c10, c11, c12, c13, c14, c15, c16, c17, c18, c19⟩ := id hc
  obtain ⟨⟨k1, k2, k3, k4, k5, k6⟩, k7⟩ := hm
  have k8 := hse args s c6 c8.2.2.2.2.2.2.2.2.2.2
  have hM := mt_vxS (l := l) (D := D) (cy := cy) (X0 := X0) (n := nn) (ad := ad) (dv := dv) K k3 k6 (by simp; omega) (by simpa using ⟨rfl, hcat⟩) c18 (by omega) c10
  have hcw : CallW R s args y.1.cls RJ4 idx y'.1 y'.2.1 y'.2.2.1 y'.2.2.2.1 (wsa y') (rmd d' kc' ks') kc' ks' n :=
    ⟨callB_of n c6 (good_wsa k1) rfl rfl rfl (c6 _ k2) (c6 _ hlk) k4 ⟨by show d' + 1 ≤ _; omega, by show 8 + (y'.2.2.1 + 11) + 40 * d' ≤ _; omega⟩, c6 _ k7, k8⟩
  obtain ⟨hR, sa, ml, hP, hD, a1, a2, a3, a4⟩ := wd_sb hw (by omega)
  have hp : PreV s H RJ4 (ad 5000) (gPs y' D cy X0 nn ad dv μ (.ref 5000 :: as)) (as.map (av_l ad)) :=
    ⟨gPs_blind, va_recv (q := (RJ4, TJ4, 4)) c8.1 hP rfl (wsl_nk 0), fun U hU hWU => ⟨⟨rfl, by rw [hU]; exact hw, by rw [hU]; exact kx_moved hWU hS c8, by rw [hU]; exact AX_le c15 hS.1⟩, scx_mv c19 hsc hU hWU hS⟩⟩
  refine go_backH (kc' := kc') (ks' := ks') (kc2 := kc2) (ks2 := ks2) (rest := rest) hc hS hl (by omega) (by omega) (a := (Value.ref (ad 5000) :: as.map (av_l ad)).toArray) (go_thru hc hh (kc2 := kc2) (ks2 := ks2) (by omega) (by omega)) ?_
  refine vx_runV (As := as.map (av_l ad)) (b := ad 5000) (nL := y.2.2.1) ⟨c1, c2, c4, c5, c6⟩ hM hcw hp rfl (by rw [List.length_map]; exact hn) hl.1 ?_ (lv_room (by rw [av_sum]; exact hW)) hd ⟨by omega, by omega⟩
  simp [List.map_append, List.map_reverse, av_l]
theorem go_callSus {z' d' kc' ks' kc2 ks2 idx n : Nat} {y' : MI} {as rest : List Value} (hd : decode y.2.1 pc = .ok (.invokespecial idx, 3)) (hst : st = as.reverse ++ .ref 5000 :: rest) (hlk : Cond.methodLink y.1.cls idx y'.1 ∈ aw) (hsc : y'.2.2.2.2.2 = y.2.2.2.2.2) (hm : mok0 y' n ∧ Cond.instanceMethod y'.1 ∈ aw) (hsm : Cond.sameMethod y'.1.cls y'.1.cls y'.1.name y'.1.desc ∈ aw) (hsu : Cond.superclass y.1.cls y'.1.cls ∈ aw) (hni : y'.1.name ≠ "<init>") (h276 : 276 ≤ z)
    (hn : as.length = n) (hl' : n + 1 ≤ y'.2.2.1) (hcat : ∀ v ∈ as, v.category = 1) (hW : (rest.map fun v => v.category).sum ≤ 8) (hz : z' ≤ z) (hdd : d' + 1 ≤ d) (hk : kc' + kc2 ≤ kc) (hks : ks' + ks2 ≤ ks) (hh : y.2.2.2.2.1 = [])
    (K : mt z' d' kc' ks' y' (.ref 5000 :: as) (fun r μ' => go z d kc2 ks2 y Q X (pc + 3) ls (psh r rest) μ') X μ) : go z d kc ks y Q X pc ls st μ := by
  subst hst
  intro p l e R s m args below meth c D cy X0 mc ms nn ad hc H locs cells slots lsA dv hw hS hl h1 h2
  obtain ⟨c1, c2, c3, c4, c5, c6, c7, c8, c9, c10, c11, c12, c13, c14, c15, c16, c17, c18, c19⟩ := id hc
  obtain ⟨⟨k1, k2, k3, k4, k5, k6⟩, k7⟩ := hm
  have hM := mt_vxS (l := l) (D := D) (cy := cy) (X0 := X0) (n := nn) (ad := ad) (dv := dv) K k3 k6 (by simp; omega) (by simpa using ⟨rfl, hcat⟩) c18 (by omega) c10
  have hg : GoodIn aw (va_wsSU y.1.cls idx y'.1 (wsa y')) := by
    intro w hw
    unfold va_wsSU at hw
    rcases List.mem_append.mp hw with h | h
    · simp only [List.mem_cons, List.not_mem_nil, or_false] at h
      rcases h with rfl | rfl | rfl | rfl | rfl
      · exact aw_good _ hlk
      · exact aw_good _ hsm
      · exact aw_good _ hsu
      · exact aw_good _ k7
      · exact aw_good _ k2
    · exact good_wsa k1 w h
  have hcw : va_CS R s args y.1.cls idx y'.1 y'.2.1 y'.2.2.1 y'.2.2.2.1 (wsa y') (rmd d' kc' ks') kc' ks' n :=
    va_cwSU n c6 hg rfl rfl rfl ⟨hni, k4.2.2⟩ ⟨by show d' + 1 ≤ _; omega, by show 8 + (y'.2.2.1 + 11) + 40 * d' ≤ _; omega⟩
  obtain ⟨hR, sa, ml, hP, hD, a1, a2, a3, a4⟩ := wd_sb hw (by omega)
  obtain ⟨-, g1, kC, g2, g3⟩ := c8.1.1 1 (RJ4, TJ4, 4) rfl
  have hp : PreV s H RJ4 (ad 5000) (gPs y' D cy X0 nn ad dv μ (.ref 5000 :: as)) (as.map (av_l ad)) :=
    ⟨gPs_blind, va_recv (q := (RJ4, TJ4, 4)) c8.1 hP rfl (wsl_nk 0), fun U hU hWU => ⟨⟨rfl, by rw [hU]; exact hw, by rw [hU]; exact kx_moved hWU hS c8, by rw [hU]; exact AX_le c15 hS.1⟩, scx_mv c19 hsc hU hWU hS⟩⟩
  refine go_backH (kc' := kc') (ks' := ks') (kc2 := kc2) (ks2 := ks2) (rest := rest) hc hS hl (by omega) (by omega) (a := (Value.ref (ad 5000) :: as.map (av_l ad)).toArray) (go_thru hc hh (kc2 := kc2) (ks2 := ks2) (by omega) (by omega)) ?_
  refine vx_runSU (As := as.map (av_l ad)) (b := ad 5000) (nL := y.2.2.1) ⟨g1, kC, g2, g3⟩ ⟨c1, c2, c4, c5, c6⟩ hM hcw hp rfl (by rw [List.length_map]; exact hn) hl.1 ?_ (lv_room (by rw [av_sum]; exact hW)) hd ⟨by omega, by omega⟩
  simp [List.map_append, List.map_reverse, av_l]
theorem go_ifnn {a : Nat} {off : Int} {tgt : Nat} (hd : decode y.2.1 pc = .ok (.ifnonnull off, 3)) (ht : (pc : Int) + off = (tgt : Int)) (K : go z d kc ks y Q X tgt ls st μ) : go z d kc ks y Q X pc ls (.ref a :: st) μ := by
  intro p l e R s m args below meth c D cy X0 mc ms nn ad hc H locs cells slots lsA dv hw hS hl h1 h2
  exact lv_ifnonnull hc.1 hc.2.1 hd ht (go_use K hc hw hS hl h1 h2)
end SBt
section VCT
variable {p : Program} {l : Launch} {e : Env} {R : Room} {s : State} {m : MethodId} {args : Array Value} {below : List Frame} {meth : Method} {c : Code} {H : Heap} {locs : List Loc} {cells slots : Nat} {Q : State → Prop}
variable {cc : ByteArray} {pc : Nat} {ls : Array Slot} {rest : List Value} {D : va_G} {cl : List vw_C} {A : Nat → Prop} {a : Nat} {tys : List (ClassId × FieldType)} {ws : va_W} {H0 : Heap}
theorem va_copyT {cc : ByteArray} (hexec : p.tables.exec = Jvm.exec) (hb : c.code = cc) (hml : c.maxLocals = ls.size) {own : String} {index : Nat} (hown : s.vm.findClass own = some m.cls) (hlink : (Cond.methodLink own index arraycopyName).before args s = true) (hnat : (Cond.native arraycopyName).before args s = true) (hstat : (Cond.static arraycopyName).before args s = true) (hini : (Cond.initialized "java/lang/System").before args s = true)
    (hK : va_K D cl tys s) (hP : va_P D cl ws H) (hD : va_D A ws) (hS : va_S A s.heap H locs) {b0 n0 : Nat} {f : Nat → Int32} (hX : va_T .byte b0 n0 (fun j => .int (f j)) A s s.heap) (hfit : ∀ j, j < n0 → fits .byte (.int (f j)) = true) (q1 t1 : Nat) {c1 : ClassId} {n1 : Nat} {g : Nat → Int32} (ha1 : ws[q1]? = some (a, .inl (c1, n1, .inl g))) (ht1 : tys[t1]? = some (c1, .byte))
    {sp dp n : Int32} (h1 : ¬ sp < 0) (h2 : ¬ dp < 0) (h3 : ¬ n < 0) (h4 : sp.toNatClampNeg + n.toNatClampNeg ≤ n0) (h5 : dp.toNatClampNeg + n.toNatClampNeg ≤ n1)
    (hframes : 1 ≤ R.frames) (hlocals : (rest.map fun v => v.category).sum + (nativeFrameWords "java/lang/System" "arraycopy" 5 + 11) ≤ R.locals) (hdg : decode cc pc = .ok (.invokestatic index, 3))
    (kk : ∀ (H1 : Heap) (locs1 : List Loc), va_P D cl (ws.set q1 (a, .inl (c1, n1, .inl (va_cpy f g sp.toNatClampNeg dp.toNatClampNeg n.toNatClampNeg)))) H1 → va_D A (ws.set q1 (a, .inl (c1, n1, .inl (va_cpy f g sp.toNatClampNeg dp.toNatClampNeg n.toNatClampNeg)))) → va_S A s.heap H1 locs1 → W p l e R s m args below meth c H1 locs1 cells slots Q (F0 m (pc + 3) ls rest)) : W p l e R s m args below meth c H locs cells slots Q (F0 m pc ls (.int n :: .int dp :: .ref a :: .int sp :: .ref b0 :: rest)) := by
  have nn : ∀ z : Int32, ¬ z < 0 → z.toInt = (z.toNatClampNeg : Int) := by
    intro z hz
    have hz0 : (0 : Int) ≤ z.toInt := by
      have := Int32.not_lt.mp hz
      simpa using Int32.le_iff_toInt_le.mp this
    show z.toInt = ((z.toInt.toNat : Nat) : Int)
    omega
  intro T hT X
  obtain ⟨scr, hs1, hs2, hs3, hs4, -, hs5, hbA⟩ := hX
  have hc0 : H[b0]? = some scr := by rw [hS.2.1 b0 (Array.getElem?_eq_some_iff.mp hs1).1 hbA]; exact hs1
  have hc1 : H[a]? = some (vp_cell c1 (n1, .inl g)) := hP q1 _ ha1
  obtain ⟨hs6, k0, hk0, cm0, hkk0⟩ := hs2
  obtain ⟨-, k1, hk1, cm1, hkk1⟩ := (hK.2 t1 _ ht1).1 n1 (fun j => .int (g j))
  obtain ⟨vm', X', step⟩ := X.arraycopy hexec hown hlink hnat hstat hini (src := b0) (dst := a) (cs := scr) (cd := vp_cell c1 (n1, .inl g)) (srcPos := sp) (destPos := dp) (n := n) (by rw [hT]; exact hc0) (by rw [hT]; exact hc1)
    hs6 (fun _ h => by cases h) hs3 (fun h => by cases h) hk0 hk1 hkk0 hkk1 (by simp [refKind]) h1 h2 h3
    (by rw [nn sp h1, nn n h3]; omega)
    (by rw [nn dp h2, nn n h3]; show ¬ _ > ((arrV c1 n1 (fun j => .int (g j))).slots.size : Int); rw [arrV_size]; omega)
    (fun vm₁ _ i hi => by
      have e : scr.slots.getD (sp.toNatClampNeg + i) .null = .int (f (sp.toNatClampNeg + i)) := by
        rw [Array.getD_eq_getD_getElem?, hs5 _ (by omega)]
        rfl
      refine ⟨?_, ?_⟩
      · rw [e]
        exact hfit _ (by omega)
      · rw [e]
        exact trivial)
    (g := F0 m pc ls (.int n :: .int dp :: .ref a :: .int sp :: .ref b0 :: rest)) rfl (by rw [hml]) (rest := rest) rfl (by rw [hb]; exact hdg) hframes (by show 2 * 0 + _ + _ ≤ _; omega)
  have e1 : copied scr (vp_cell c1 (n1, .inl g)) sp dp n = vp_cell c1 (n1, .inl (va_cpy f g sp.toNatClampNeg dp.toNatClampNeg n.toNatClampNeg)) := va_copiedX (fun z => .int z) scr c1 f g hs5 h4
  rw [e1] at X' step
  have hl : a < H.size := (Array.getElem?_eq_some_iff.mp hc1).1
  have hheap : ((T.setVm vm').setCell a (vp_cell c1 (n1, .inl (va_cpy f g sp.toNatClampNeg dp.toNatClampNeg n.toNatClampNeg)))).heap = H.setIfInBounds a (vp_cell c1 (n1, .inl (va_cpy f g sp.toNatClampNeg dp.toNatClampNeg n.toNatClampNeg))) := by rw [← hT]; rfl
  have oq : ∀ q : Nat, q ≠ a → (H.setIfInBounds a (vp_cell c1 (n1, .inl (va_cpy f g sp.toNatClampNeg dp.toNatClampNeg n.toNatClampNeg))))[q]? = H[q]? := fun q hq => by simp [Array.getElem?_setIfInBounds, Ne.symm hq]
  obtain ⟨t, a1, b1⟩ := kk _ _ (hP.set hD ha1 (show (H.setIfInBounds a _)[a]? = some _ by simp [Array.getElem?_setIfInBounds, hl]) oq) (hD.set ha1) ⟨by simp; exact hS.1, fun q g1 g2 => by
      rw [oq q (fun e => g2 (by rw [e]; exact hD.2 q1 _ ha1))]
      exact hS.2.1 q g1 g2, fun q hq => by
      rcases List.mem_append.mp hq with h | h
      · exact hS.2.2 q h
      · obtain ⟨z, -, hz⟩ := List.mem_map.mp h
        rw [← hz]
        exact hD.2 q1 _ ha1⟩ _ hheap X'
  exact ⟨t, step t a1, b1⟩
end VCT
/-- a text copied into the builder's row, from place n on -/
def cpt (μ : Mem) (n L : Nat) (xs : Nat → Int32) : Mem := fun b j => if b = 5001 ∧ n ≤ j ∧ j < n + L then chx xs (j - n) else μ b j
theorem cpt_o {μ : Mem} {n L b j : Nat} {xs : Nat → Int32} (h : b ≠ 5001) : cpt μ n L xs b j = μ b j := if_neg (fun w => h w.1)
theorem shl0 (v : Int) : iI v <<< (iI 0 &&& 31) = iI v := by
  apply i32_ext
  show ((iI v).toBitVec <<< ((iI 0 &&& 31 : Int32).toBitVec.smod 32)).toNat = _
  rw [show ((iI 0 &&& 31 : Int32).toBitVec.smod 32) = 0#32 by decide +kernel, BitVec.shiftLeft_eq', BitVec.toNat_shiftLeft]
  show (iI v).toBitVec.toNat <<< 0 % 2 ^ 32 = _
  rw [Nat.shiftLeft_zero]
  exact Nat.mod_eq_of_lt (iI v).toBitVec.isLt
section Aps
variable {z d kc ks : Nat} {y : MI} {Q : Option Value → Mem → Prop} {X : String → Mem → Prop} {pc : Nat} {ls st : List Value} {μ : Mem} {L : Nat} {xs : Nat → Int32}
theorem go_tcopy {n : Nat} (hd : decode y.2.1 pc = .ok (.invokestatic 212, 3)) (hy : y.1.cls = RJ0) (hi : y.2.2.2.2.2 = some (true, L, xs)) (hz : 276 ≤ z) (hm : μ 5003 0 ≠ 0) (hn : (n : Int) + L ≤ μ 5002 0) (hx : ∀ j, j < L → -128 ≤ chx xs j ∧ chx xs j < 128) (hdd : 1 ≤ d) (hW : (st.map fun v => v.category).sum ≤ 8)
    (K : go z d kc ks y Q X (pc + 3) ls st (cpt μ n L xs)) : go z d kc ks y Q X pc ls (.int (iI (L : Nat)) :: .int (iI (n : Nat)) :: .ref 5001 :: .int (iI 0) :: .ref 6101 :: st) μ := by
  intro p l e R s m args below meth c D cy X0 mc ms nn ad hc H locs cells slots lsA dv hw hS hl h1 h2
  obtain ⟨c1, c2, c3, c4, c5, c6, c7, c8, c9, c10, c11, c12, c13, c14, c15, c16, c17, c18, c19⟩ := id hc
  obtain ⟨g0, g1, g2, g3, g4⟩ := (c19 L xs).2 hi
  obtain ⟨hR, sa, ml, hP, hD, a1, a2, a3, a4⟩ := wd_sb hw (by omega)
  have esa := a1 hm
  subst esa
  have hlk := c6 _ ml_J0_212
  rw [← hy] at hlk
  have z0 : ¬ (iI 0 : Int32) < 0 := by decide
  have z1 : (iI 0 : Int32).toNatClampNeg = 0 := by decide
  have zn (k : Nat) (hk : k < 2000) : ¬ iI (k : Int) < 0 := fun q => by
    have := (iI_lt (a := (k : Int)) (b := 0) ⟨by omega, by omega⟩ rng0).mp q
    omega
  have hnw : nativeFrameWords "java/lang/System" "arraycopy" 5 ≤ 20 := by decide
  refine va_copyT c1 c2 (c4.trans hl.1.symm) c5 hlk (c6 _ mw_cp_n) (c6 _ mw_cp_s) (c6 _ mw_sys) c8.1 hP hD hS g4 (fun j hj => by have := fit_by (hx j hj); rw [iI_as] at this; exact this) (nn + 1) 2 (wsl_nk 1) rfl z0 (zn n (by omega)) (zn L (by omega)) (by rw [z1, iI_clamp (by omega)]; omega) (by rw [iI_clamp (by omega), iI_clamp (by omega)]; omega) (by omega) (by rw [av_sum]; omega) hd (fun H1 locs1 hP1 hD1 hS1 => ?_)
  rw [z1, iI_clamp (by omega), iI_clamp (by omega), wsl_nset 1] at hP1 hD1
  have ew : wsl cy dv ad (cpt μ n L xs) nn = wsl cy dv ad μ nn := wsl_off (fun a j ha => cpt_o (by omega))
  have ee : ([e50 ad (ad 5001) ml μ, e51 cy (ad 5001) μ] : va_W).set 1 (ad 5001, .inl (cy 2, (μ 5002 0).toNat, .inl (va_cpy xs (fun j => iI (μ 5001 j)) 0 n L))) = [e50 ad (ad 5001) ml (cpt μ n L xs), e51 cy (ad 5001) (cpt μ n L xs)] := by
    unfold e50 e51
    rw [cpt_o (by decide), cpt_o (by decide)]
    show [_, _] = _
    refine congrArg (fun g => [_, (ad 5001, (.inl (cy 2, (μ 5002 0).toNat, .inl g) : va_E))]) ?_
    funext j
    unfold va_cpy cpt
    by_cases hj : n ≤ j ∧ j < n + L
    · rw [if_pos hj, if_pos ⟨rfl, hj⟩, Nat.zero_add, iI_as]
    · rw [if_neg hj, if_neg (fun w => hj w.2)]
  rw [ee, ← ew] at hP1 hD1
  refine go_use K hc (wd_bs (fun b j => ?_) (by omega) hP1 hD1 (fun _ => rfl) (by rw [cpt_o (by decide), cpt_o (by decide)]; exact a2) (by rw [cpt_o (by decide)]; exact a3) (fun j => ?_)) hS1 hl h1 h2
  · unfold cpt
    split
    · exact rng_t _
    · exact hR b j
  · unfold cpt
    split
    · rename_i w
      exact hx _ (by omega)
    · exact a4 j
end Aps
