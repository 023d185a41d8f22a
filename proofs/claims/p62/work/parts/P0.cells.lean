/-! FURTHER CELLS: objects made beside the numbered world, numbers 400 .. 4999 -/
theorem ref_5005 : ∀ k < 293, ∀ q ∈ (shp k).2.2, q.getD 0 < 293 ∨ q.getD 0 = 5005 := by decide +kernel
theorem wsl_adf {cy : Nat → ClassId} {dv : UInt64} {ad ad' : Nat → Nat} {μ : Mem} {nn : Nat} (hn : nn ≤ 293) (h : ∀ k, k < 293 ∨ k = 5005 → ad' k = ad k) : wsl cy dv ad' μ nn = wsl cy dv ad μ nn :=
  wsl_ad (fun k hk => h k (Or.inl (by omega))) (fun k hk q hq => h q (ref_5005 k (by omega) (some q) hq))
theorem pf1 {W E F : va_W} {x : Nat × va_E} : ((W ++ (E ++ F)) ++ [x]).Perm (W ++ (E ++ (x :: F))) := by
  rw [List.append_assoc, List.append_assoc]
  exact List.Perm.append_left _ (List.Perm.append_left _ List.perm_append_comm)
def fq (q : Nat) : Prop := 400 ≤ q ∧ q < 5000
theorem fq_n {q k : Nat} (h : fq q) (hk : k < 400 ∨ 5000 ≤ k) : k ≠ q := by unfold fq at h; omega
theorem va_ldcSW {p : Program} {l : Launch} {e : Env} {R : Room} {s : State} {m : MethodId} {args : Array Value} {below : List Frame} {meth : Method} {c : Code} {H : Heap} {locs : List Loc} {cells slots : Nat} {Q : State → Prop} {ls : Array Slot} {rest : List Value} {cc : ByteArray} {pc : Nat} (hexec : p.tables.exec = Jvm.exec) (hb : c.code = cc) {own tx : String} {index q : Nat} (hown : s.vm.findClass own = some m.cls) (hZ : vk_R own index tx q s) (hdg : decode cc pc = .ok (.ldc_w index, 3))
    (k : W p l e R s m args below meth c H locs cells slots Q (F0 m (pc + 3) ls (.ref q :: rest))) : W p l e R s m args below meth c H locs cells slots Q (F0 m pc ls rest) := by
  intro T hT X
  obtain ⟨t, a1, b1⟩ := k T hT X
  exact ⟨t, X.ldcStringW hexec hown (text := tx) (a := q) hZ.1 hZ.2 (g := F0 m pc ls rest) rfl (by rw [hb]; exact hdg) t a1, b1⟩
section Cells
variable {D : va_G} {cy : Nat → ClassId} {X0 : Nat → Prop} {nn : Nat} {ad : Nat → Nat} {F9 : va_W} {d kc ks : Nat} {y : MI} {PQ : Array Value → State → Outcome → State → Prop} {PX : String → State → State → Prop} {pc : Nat} {ls st : List Value} {μ : Mem}
theorem gl_new1 {q pc' N : Nat} {e9 : va_E} (hq : fq q) (hnn : nn ≤ 293) (hls : nok q ls) (hst : nok q st) {p : Program} {l : Launch} {e : Env} {R : Room} {s : State} {m : MethodId} {args : Array Value} {below : List Frame} {meth : Method} {c : Code} {mc ms : Nat}
    (hc : cx nn d y p l R s m args meth c D cy X0 mc ms nn ad) (ho : ao s) {H H1 : Heap} {locs : List Loc} {cells slots : Nat} {lsA : Array Slot} {dv : UInt64} (hw : wdF D cy nn ad dv μ X0 H F9) (hS : va_S X0 s.heap H locs) (hl : lh ad lsA y.2.2.1 ls) (z1 : H1.size = H.size + 1) (o1 : ∀ q : Nat, q < H.size → H1[q]? = H[q]?) (e1 : va_at D vwCl (H.size, e9) H1)
    (K : gl D cy X0 nn (ad1 ad q H.size) ((H.size, e9) :: F9) d kc ks y PQ PX pc' ls (.ref q :: st) μ) (h1 : cells + 1 + kc ≤ mc) (h2 : slots + N + ks ≤ ms) :
    W p l e R s m args below meth c H1 locs (cells + 1) (slots + N) (vx_MQ below PQ PX args s mc ms X0) (F0 m pc' lsA (Value.ref H.size :: st.map (av_l ad))) := by
  obtain ⟨c1, c2, c3, c4, c5, c6, c7, c8, c9, c10, c11, c12, c13, c14, c15, c16, c17, c18, c19⟩ := id hc
  obtain ⟨hR, E, hE, hP, hD⟩ := hw
  have hs : ∀ k, k < 400 ∨ 5000 ≤ k → ad1 ad q H.size k = ad k := fun k hk => ad1_n (fq_n hq hk)
  have ew : wsl cy dv (ad1 ad q H.size) μ nn = wsl cy dv ad μ nn := wsl_adf hnn (fun k hk => hs k (by omega))
  have hc1 := cx_ad (ad' := ad1 ad q H.size) hc ⟨hs _ (by decide), hs _ (by decide), hs _ (by decide)⟩ (fun k hk => hs k (by omega))
  have hk2 : ∀ (k : Nat) (x : Nat × va_E), (wsl cy dv ad μ nn ++ (E ++ F9))[k]? = some x → H1[x.1]? = H[x.1]? := fun k x hx => o1 x.1 ((hP k x hx).lt)
  have hm : Value.ref H.size :: st.map (av_l ad) = (Value.ref q :: st).map (av_l (ad1 ad q H.size)) := by
    show _ = Value.ref (ad1 ad q H.size q) :: st.map (av_l (ad1 ad q H.size))
    rw [ad1_s, List.map_congr_left (fun v hv => av_nok hst v hv)]
  rw [hm]
  refine gl_use (dv := dv) K hc1 ho ⟨hR, E, sbx_ad hE (hs _ (by decide)) (hs _ (by decide)), ?_, ?_⟩ ⟨Nat.le_trans hS.1 (by omega), fun x h1 h2 => (o1 x (Nat.lt_of_lt_of_le h1 hS.1)).trans (hS.2.1 x h1 h2), hS.2.2⟩ (lh_ad hl (fun v hv => av_nok hls v hv)) (by omega) (by omega)
  · rw [ew]
    refine va_P_perm pf1 ((hP.kept hk2).app (fun k x hx => ?_))
    have hz : k < 1 := (List.getElem?_eq_some_iff.mp hx).1
    rw [show k = 0 by omega] at hx
    cases hx
    exact e1
  · rw [ew]
    exact va_D_perm pf1 (hD.push hP rfl (c15 _ hS.1))
/-- a new object, that gets the number q -/
theorem gl_newC {q idx N ci : Nat} {C : String} {T : u_T} {fs : List Value} (hq : fq q) (hd : decode y.2.1 pc = .ok (.new idx, 3)) (hcl : Cond.classLink y.1.cls idx C ∈ aw) (hinst : Cond.instantiable C N ∈ aw) (hini : Cond.initialized C ∈ aw) (ia : ∀ w ∈ u_ws C T N, w ∈ aw) (ty : Nat → FieldType) (hty : ∀ k, k < N → parseFieldDescriptor (T k).2.2.1 = some (ty k)) (hci : vwCl[ci]? = some (C, T, N))
    (hfs : ∀ j, j < N → defaultValue (ty j) = vp_V fs j) (hnn : nn ≤ 293) (hls : nok q ls) (hst : nok q st)
    (K : ∀ a, gl D cy X0 nn (ad1 ad q a) ((a, .inr (ci, fs)) :: F9) d kc ks y PQ PX (pc + 3) ls (.ref q :: st) μ) : gl D cy X0 nn ad F9 d (kc + 1) (ks + N) y PQ PX pc ls st μ := by
  intro p l e R s m args below meth c mc ms hc ho H locs cells slots lsA dv hw hS hl h1 h2
  obtain ⟨c1, c2, c3, c4, c5, c6, c7, c8, c9, c10, c11, c12, c13, c14, c15, c16, c17, c18, c19⟩ := id hc
  have hKn := c8.1.1 ci _ hci
  refine W.newcK c1 c2 c5 (c6 _ hcl) (c6 _ hinst) (c6 _ hini) rfl hd (by omega) (by omega) hKn.2.1 rfl fun H1 kC hkC e1 z1 o1 => ?_
  exact gl_new1 (e9 := .inr (ci, fs)) hq hnn hls hst hc ho hw hS hl z1 o1 ⟨_, hci, (u_born ty c6 ia hKn hkC e1 hty).to hfs⟩ (K H.size) (by omega) (by omega)
/-- a new row of bytes -/
theorem gl_newBy {q N : Nat} {i : Int} (hq : fq q) (hd : decode y.2.1 pc = .ok (.newarray .byte, 2)) (hi : i = (N : Int)) (hN : N ≤ 4000) (hnn : nn ≤ 293) (hls : nok q ls) (hst : nok q st)
    (K : ∀ a, gl D cy X0 nn (ad1 ad q a) ((a, .inl (cy 2, N, .inl (fun _ => iI 0))) :: F9) d kc ks y PQ PX (pc + 2) ls (.ref q :: st) μ) : gl D cy X0 nn ad F9 d (kc + 1) (ks + N) y PQ PX pc ls (.int (iI i) :: st) μ := by
  intro p l e R s m args below meth c mc ms hc ho H locs cells slots lsA dv hw hS hl h1 h2
  obtain ⟨c1, c2, c3, c4, c5, c6, c7, c8, c9, c10, c11, c12, c13, c14, c15, c16, c17, c18, c19⟩ := id hc
  have hRA := (c8.1.2 2 (cy 2, .byte) rfl).2
  subst hi
  refine va_newaK (atype := .byte) c1 c2 (c6 _ mw_byte) rfl hd rfl (N := N) (by
    show ¬ iI (N : Int) < iI 0
    rw [iI_lt ⟨by omega, by omega⟩ rng0]
    omega) (iI_clamp (by omega)) (by show N * componentBytes .byte ≤ 536870912; have : componentBytes .byte = 1 := rfl; rw [this]; omega) (by omega) (by omega) (h := H.size) rfl fun H1 cA e1 z1 o1 hAr hNm => ?_
  have hcA : cA = cy 2 := Option.some.inj (hNm.symm.trans hRA)
  subst hcA
  exact gl_new1 (e9 := .inl (cy 2, N, .inl (fun _ => iI 0))) hq hnn hls hst hc ho hw hS hl z1 o1 (by
    show H1[H.size]? = some (vp_cell _ _)
    rw [cell_0]
    exact e1) (K H.size) (by omega) (by omega)
/-- a field that is not final of a further cell -/
theorem gl_putN (i : Nat) {idx ci j b a : Nat} {v v' : Value} {t : FieldType} {fs : List Value} (hd : decode y.2.1 pc = .ok (.putfield idx, 3)) (hf : fpkA y.1.cls idx ci j t) (hb : ad b = a) (hv : av_l ad v = v') (hi : F9[i]? = some (a, .inr (ci, fs))) (hn : narrow t v' = v') (hfit : fits t v' = true) (hlt : j < fs.length)
    (K : gl D cy X0 nn ad (F9.set i (a, .inr (ci, fs.set j v'))) d kc ks y PQ PX (pc + 3) ls st μ) : gl D cy X0 nn ad F9 d kc ks y PQ PX pc ls (v :: .ref b :: st) μ := by
  intro p l e R s m args below meth c mc ms hc ho H locs cells slots lsA dv hw hS hl h1 h2
  subst hb hv
  obtain ⟨c1, c2, c3, c4, c5, c6, c7, c8, c9, c10, c11, c12, c13, c14, c15, c16, c17, c18, c19⟩ := id hc
  obtain ⟨C, T, N, ty, f1, f2, f3, f4, f5, f6, f8, f10⟩ := hf
  obtain ⟨hR, E, hE, hP, hD⟩ := hw
  rw [← List.append_assoc] at hP hD
  refine va_putz (Ts := aw) (v := av_l ad v) (ty := t) c1 c2 c6 f4 ty f5 f6 c5 c8.1 hP hD hS ((wsl cy dv ad μ nn ++ E).length + i) (ap_get hi) f1 j f2 (c6 _ f3) (fun x h => h) f8 f10 hn hfit hlt hd (fun H1 locs1 hP1 hD1 hS1 hz1 => ?_)
  rw [ap_set, List.append_assoc] at hP1 hD1
  exact gl_use K hc ho ⟨hR, E, hE, hP1, hD1⟩ hS1 hl h1 h2
/-- a final field -/
theorem gl_putF (i : Nat) {idx ci j b a : Nat} {v v' : Value} {t : FieldType} {fs : List Value} (hd : decode y.2.1 pc = .ok (.putfield idx, 3)) (hf : flkF y.1.cls idx ci j t) (hnm : y.1.name = "<init>") (hb : ad b = a) (hv : av_l ad v = v') (hi : F9[i]? = some (a, .inr (ci, fs))) (hn : narrow t v' = v') (hfit : fits t v' = true) (hlt : j < fs.length)
    (K : gl D cy X0 nn ad (F9.set i (a, .inr (ci, fs.set j v'))) d kc ks y PQ PX (pc + 3) ls st μ) : gl D cy X0 nn ad F9 d kc ks y PQ PX pc ls (v :: .ref b :: st) μ := by
  intro p l e R s m args below meth c mc ms hc ho H locs cells slots lsA dv hw hS hl h1 h2
  subst hb hv
  obtain ⟨c1, c2, c3, c4, c5, c6, c7, c8, c9, c10, c11, c12, c13, c14, c15, c16, c17, c18, c19⟩ := id hc
  obtain ⟨C, T, N, ty, f1, f2, f3, f4, f5, f6, f7, f8, f9, f10⟩ := hf
  obtain ⟨hR, E, hE, hP, hD⟩ := hw
  rw [← List.append_assoc] at hP hD
  refine va_putFz (Ts := aw) (v := av_l ad v) (ty := t) c1 c2 c6 f4 ty f5 f6 c5 c8.1 hP hD hS ((wsl cy dv ad μ nn ++ E).length + i) (ap_get hi) f1 j f2 (c6 _ f3) (fun x h => by rw [f7] at h; exact h) f8 (c17.trans hnm) f9 f10 hn hfit hlt hd (fun H1 locs1 hP1 hD1 hS1 hz1 => ?_)
  rw [ap_set, List.append_assoc] at hP1 hD1
  exact gl_use K hc ho ⟨hR, E, hE, hP1, hD1⟩ hS1 hl h1 h2
theorem gl_obj {idx a : Nat} (hd : decode y.2.1 pc = .ok (.invokespecial idx, 3)) (hlk : Cond.methodLink y.1.cls idx Lib.objectInit ∈ aw) (hdp : 1 ≤ d) (hW : (st.map fun v => v.category).sum ≤ 8) (K : gl D cy X0 nn ad F9 d kc ks y PQ PX (pc + 3) ls st μ) : gl D cy X0 nn ad F9 d kc ks y PQ PX pc ls (.ref a :: st) μ := by
  intro p l e R s m args below meth c mc ms hc ho H locs cells slots lsA dv hw hS hl h1 h2
  obtain ⟨c1, c2, c3, c4, c5, c6, c7, c8, c9, c10, c11, c12, c13, c14, c15, c16, c17, c18, c19⟩ := id hc
  have hr := lv_room (ls := lsA) (pc := pc) (m := m) (rest := (Value.ref a :: st).map (av_l ad)) (st := st.map (av_l ad)) (by rw [av_sum]; exact hW)
  refine W.objInit c1 c2 c5 (c6 _ hlk) (c6 _ (tb_in 39 (by decide +kernel) (by decide +kernel))) (c6 _ (tb_in 40 (by decide +kernel) (by decide +kernel))) (g := F0 m pc lsA ((.ref a :: st).map (av_l ad))) rfl (by rw [c4]; exact hl.1) rfl hd (Nat.le_trans hdp c11) ?_ ?_
  · show 2 * (F0 m pc lsA ((Value.ref a :: st).map (av_l ad))).monitorRoom + ((st.map (av_l ad)).map fun v => v.category).sum + 12 ≤ R.locals
    omega
  exact gl_use K hc ho hw hS hl h1 h2
theorem gl_compact {idx : Nat} (hd : decode y.2.1 pc = .ok (.getstatic idx, 3)) (hlk : Cond.fieldLink y.1.cls idx RJ0 "COMPACT_STRINGS" "Z" ∈ aw) (K : gl D cy X0 nn ad F9 d kc ks y PQ PX (pc + 3) ls (.int (iI 1) :: st) μ) : gl D cy X0 nn ad F9 d kc ks y PQ PX pc ls st μ := by
  intro p l e R s m args below meth c mc ms hc ho H locs cells slots lsA dv hw hS hl h1 h2
  obtain ⟨c1, c2, c3, c4, c5, c6, c7, c8, c9⟩ := id hc
  exact va_gets c1 c2 c8.2.2.2.2.1 hS c5 (c6 _ hlk) (fun x h => h) hd (gl_use K hc ho hw hS hl h1 h2)
theorem gl_ldcI {idx : Nat} {v : Int32} {w : Int} (hd : decode y.2.1 pc = .ok (.ldc idx, 2)) (hi : Cond.constant y.1.cls idx v ∈ aw) (hv : v = iI w) (K : gl D cy X0 nn ad F9 d kc ks y PQ PX (pc + 2) ls (.int (iI w) :: st) μ) : gl D cy X0 nn ad F9 d kc ks y PQ PX pc ls st μ := by
  intro p l e R s m args below meth c mc ms hc ho H locs cells slots lsA dv hw hS hl h1 h2
  subst hv
  exact lv_ldc hc.1 hc.2.1 hc.2.2.2.2.1 (hc.2.2.2.2.2.1 _ hi) hd (gl_use K hc ho hw hS hl h1 h2)
theorem gl_ldc {idx i : Nat} {tx : String} (hd : decode y.2.1 pc = .ok (.ldc idx, 2)) (hi : sc_l[i]? = some (y.1.cls, idx, tx)) (K : gl D cy X0 nn ad F9 d kc ks y PQ PX (pc + 2) ls (.ref (7000 + i) :: st) μ) : gl D cy X0 nn ad F9 d kc ks y PQ PX pc ls st μ := by
  intro p l e R s m args below meth c mc ms hc ho H locs cells slots lsA dv hw hS hl h1 h2
  obtain ⟨c1, c2, c3, c4, c5, c6, c7, c8, c9, c10, c11⟩ := id hc
  exact va_ldcS c1 c2 c5 (c8.2.1 i _ hi).1 hd (gl_use K hc ho hw hS hl h1 h2)
theorem gl_ldcW {idx i : Nat} {tx : String} (hd : decode y.2.1 pc = .ok (.ldc_w idx, 3)) (hi : sc_l[i]? = some (y.1.cls, idx, tx)) (K : gl D cy X0 nn ad F9 d kc ks y PQ PX (pc + 3) ls (.ref (7000 + i) :: st) μ) : gl D cy X0 nn ad F9 d kc ks y PQ PX pc ls st μ := by
  intro p l e R s m args below meth c mc ms hc ho H locs cells slots lsA dv hw hS hl h1 h2
  obtain ⟨c1, c2, c3, c4, c5, c6, c7, c8, c9, c10, c11⟩ := id hc
  exact va_ldcSW c1 c2 c5 (c8.2.1 i _ hi).1 hd (gl_use K hc ho hw hS hl h1 h2)
theorem gl_i2c {a v : Int} (hd : decode y.2.1 pc = .ok (.i2c, 1)) (hv : ((iI a).toUInt32 % 65536).toInt32 = iI v) (K : gl D cy X0 nn ad F9 d kc ks y PQ PX (pc + 1) ls (.int (iI v) :: st) μ) : gl D cy X0 nn ad F9 d kc ks y PQ PX pc ls (.int (iI a) :: st) μ := by
  intro p l e R s m args below meth c mc ms hc ho H locs cells slots lsA dv hw hS hl h1 h2
  exact lv_i2c hc.1 hc.2.1 hd hv (gl_use K hc ho hw hS hl h1 h2)
theorem gl_acnull (hd : decode y.2.1 pc = .ok (.aconst_null, 1)) (K : gl D cy X0 nn ad F9 d kc ks y PQ PX (pc + 1) ls (.null :: st) μ) : gl D cy X0 nn ad F9 d kc ks y PQ PX pc ls st μ := by
  intro p l e R s m args below meth c mc ms hc ho H locs cells slots lsA dv hw hS hl h1 h2
  exact lv_null hc.1 hc.2.1 hd (gl_use K hc ho hw hS hl h1 h2)
end Cells
