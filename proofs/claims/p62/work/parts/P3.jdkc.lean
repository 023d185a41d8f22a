/-! ROWS OF BYTES copied into further cells -/
section Copies
variable {D : va_G} {cy : Nat → ClassId} {X0 : Nat → Prop} {nn : Nat} {ad : Nat → Nat} {F9 : va_W} {d kc ks : Nat} {y : MI} {PQ : Array Value → State → Outcome → State → Prop} {PX : String → State → State → Prop} {pc : Nat} {ls st : List Value} {μ : Mem}
theorem gl_new2 {q a pc' : Nat} {e9 : va_E} (hq : fq q) (hnn : nn ≤ 293) (hls : nok q ls) (hst : nok q st) {p : Program} {l : Launch} {e : Env} {R : Room} {s : State} {m : MethodId} {args : Array Value} {below : List Frame} {meth : Method} {c : Code} {mc ms : Nat}
    (hc : cx nn d y p l R s m args meth c D cy X0 mc ms nn ad) (ho : ao s) {H1 : Heap} {locs : List Loc} {cells slots : Nat} {lsA : Array Slot} {dv : UInt64} {E : va_W} (hR : ∀ a i, rng (μ a i)) (hE : sbx cy ad μ nn E) (hP : va_P D vwCl ((wsl cy dv ad μ nn ++ (E ++ F9)) ++ [(a, e9)]) H1) (hD : va_D X0 ((wsl cy dv ad μ nn ++ (E ++ F9)) ++ [(a, e9)])) (hS : va_S X0 s.heap H1 locs) (hl : lh ad lsA y.2.2.1 ls)
    (K : gl D cy X0 nn (ad1 ad q a) ((a, e9) :: F9) d kc ks y PQ PX pc' ls (.ref q :: st) μ) (h1 : cells + kc ≤ mc) (h2 : slots + ks ≤ ms) :
    W p l e R s m args below meth c H1 locs cells slots (vx_MQ below PQ PX args s mc ms X0) (F0 m pc' lsA (Value.ref a :: st.map (av_l ad))) := by
  have hs : ∀ k, k < 400 ∨ 5000 ≤ k → ad1 ad q a k = ad k := fun k hk => ad1_n (fq_n hq hk)
  have ew : wsl cy dv (ad1 ad q a) μ nn = wsl cy dv ad μ nn := wsl_adf hnn (fun k hk => hs k (by omega))
  have hc1 := cx_ad (ad' := ad1 ad q a) hc ⟨hs _ (by decide), hs _ (by decide), hs _ (by decide)⟩ (fun k hk => hs k (by omega))
  have hm : Value.ref a :: st.map (av_l ad) = (Value.ref q :: st).map (av_l (ad1 ad q a)) := by
    show _ = Value.ref (ad1 ad q a q) :: st.map (av_l (ad1 ad q a))
    rw [ad1_s, List.map_congr_left (fun v hv => av_nok hst v hv)]
  rw [hm]
  exact gl_use (dv := dv) K hc1 ho ⟨hR, E, sbx_ad hE (hs _ (by decide)) (hs _ (by decide)), by rw [ew]; exact va_P_perm pf1 hP, by rw [ew]; exact va_D_perm pf1 hD⟩ hS (lh_ad hl (fun v hv => av_nok hls v hv)) h1 h2
theorem bB {s : State} {cA : ClassId} (h : va_RA s cA .byte) : s.vm.findClass "[B" = some cA := by
  have e : "[" ++ FieldType.byte.toString = "[B" := by decide +kernel
  rw [← e]
  exact h
/-- the builder's row, cloned -/
theorem gl_clone {q idx : Nat} (hq : fq q) (hnn : 276 ≤ nn ∧ nn ≤ 293) (hd : decode y.2.1 pc = .ok (.invokevirtual idx, 3)) (hlk : Cond.methodLink y.1.cls idx ⟨"[B", "clone", "()Ljava/lang/Object;"⟩ ∈ aw) (hm : μ 5003 0 ≠ 0) (hdd : 1 ≤ d) (hW : (st.map fun v => v.category).sum ≤ 8) (hls : nok q ls) (hst : nok q st)
    (K : ∀ a, gl D cy X0 nn (ad1 ad q a) ((a, .inl (cy 2, (μ 5002 0).toNat, .inl (fun j => iI (μ 5001 j)))) :: F9) d kc ks y PQ PX (pc + 3) ls (.ref q :: st) μ) : gl D cy X0 nn ad F9 d (kc + 1) (ks + (μ 5002 0).toNat) y PQ PX pc ls (.ref 5001 :: st) μ := by
  intro p l e R s m args below meth c mc ms hc ho H locs cells slots lsA dv hw hS hl h1 h2
  obtain ⟨c1, c2, c3, c4, c5, c6, c7, c8, c9, c10, c11, c12, c13, c14, c15, c16, c17, c18, c19⟩ := id hc
  obtain ⟨hR, E, hE, hP, hD⟩ := id hw
  obtain ⟨sa, ml, e9, a1, a2, a3, a4⟩ : ∃ (sa : Nat) (ml : Int32), E = [(ad 5000, .inr (1, [.ref sa, .int 0, .int ml, .int (iI (μ 5000 0))])), (sa, .inl (cy 2, (μ 5002 0).toNat, .inl (fun j => iI (μ 5001 j))))] ∧
      (μ 5003 0 ≠ 0 → sa = ad 5001) ∧ (0 ≤ μ 5000 0 ∧ μ 5000 0 ≤ μ 5002 0) ∧ (μ 5002 0 = 16 ∨ μ 5002 0 = 22 ∨ μ 5002 0 = 46 ∨ μ 5002 0 = 94 ∨ μ 5002 0 = 190 ∨ μ 5002 0 = 382) ∧ ∀ j, -128 ≤ μ 5001 j ∧ μ 5001 j < 128 := by
    rcases hE with ⟨g, -⟩ | ⟨-, sa, ml, h⟩
    · omega
    · exact ⟨sa, ml, h⟩
  have esa := a1 hm
  subst esa
  have he : (wsl cy dv ad μ nn ++ (E ++ F9))[(wsl cy dv ad μ nn).length + 1]? = some (ad 5001, .inl (cy 2, (μ 5002 0).toNat, .inl (fun j => iI (μ 5001 j)))) := by
    rw [e9]
    exact ap_get rfl
  refine va_clone (ad := "[B") (x := ((μ 5002 0).toNat, .inl (fun j => iI (μ 5001 j)))) (ty := .byte) c1 c2 (c4.trans hl.1.symm) c5 (c6 _ hlk) (c6 _ (tb_in 1490 (by decide +kernel) (by decide +kernel))) (c6 _ (tb_in 1491 (by decide +kernel) (by decide +kernel))) (c6 _ (tb_in 1492 (by decide +kernel) (by decide +kernel))) (c6 _ (tb_in 1493 (by decide +kernel) (by decide +kernel))) (c8.2.2.2.2.2.2.2.2.2.2 _ (fw_in 1494 (by decide +kernel) (by decide +kernel))) c8.1 hP hD hS (fun q hq => c15 q hq) _ 2 he rfl (bB (c8.1.2 2 (cy 2, .byte) rfl).2) ?_ (by omega) (by rw [av_sum]; omega) (by omega) (by show slots + (μ 5002 0).toNat ≤ _; omega) hd (fun q9 H1 hK1 hP1 hD1 hS1 => ?_)
  · intro i v hv
    exact va_fit (fun i _ => fit_by (a4 i)) i v hv
  · exact gl_new2 (a := q9) hq hnn.2 hls hst hc ho hR hE hP1 hD1 hS1 hl (K q9) (by omega) (by show slots + (μ 5002 0).toNat + ks ≤ ms; omega)
theorem gl_castB {q a idx n : Nat} {f : Nat → Int32} (hd : decode y.2.1 pc = .ok (.checkcast idx, 3)) (hlk : Cond.classLink y.1.cls idx "[B" ∈ aw) (hq : ad q = a) (h0 : F9[0]? = some (a, .inl (cy 2, n, .inl f))) (K : gl D cy X0 nn ad F9 d kc ks y PQ PX (pc + 3) ls (.ref q :: st) μ) : gl D cy X0 nn ad F9 d kc ks y PQ PX pc ls (.ref q :: st) μ := by
  intro p l e R s m args below meth c mc ms hc ho H locs cells slots lsA dv hw hS hl h1 h2
  subst hq
  obtain ⟨c1, c2, c3, c4, c5, c6, c7, c8, c9, c10, c11⟩ := id hc
  obtain ⟨hR, E, hE, hP, hD⟩ := id hw
  rw [← List.append_assoc] at hP
  have he : ((wsl cy dv ad μ nn ++ E) ++ F9)[(wsl cy dv ad μ nn ++ E).length + 0]? = some (ad q, .inl (cy 2, n, .inl f)) := ap_get h0
  exact va_castA c1 c2 c5 (c6 _ hlk) hP _ he (bB (c8.1.2 2 (cy 2, .byte) rfl).2) hd (gl_use K hc ho hw hS hl h1 h2)
/-- of the builder's row n bytes into a further row of n -/
theorem gl_cpB {q a idx n : Nat} {g : Nat → Int32} (hnn : 276 ≤ nn) (hd : decode y.2.1 pc = .ok (.invokestatic idx, 3)) (hlk : Cond.methodLink y.1.cls idx arraycopyName ∈ aw) (hm : μ 5003 0 ≠ 0) (hq : ad q = a) (h0 : F9[0]? = some (a, .inl (cy 2, n, .inl g))) (hn : (n : Int) ≤ μ 5002 0) (hdd : 1 ≤ d) (hW : (st.map fun v => v.category).sum ≤ 8)
    (K : gl D cy X0 nn ad (F9.set 0 (a, .inl (cy 2, n, .inl (va_cpy (fun j => iI (μ 5001 j)) g 0 0 n)))) d kc ks y PQ PX (pc + 3) ls st μ) : gl D cy X0 nn ad F9 d kc ks y PQ PX pc ls (.int (iI (n : Nat)) :: .int (iI 0) :: .ref q :: .int (iI 0) :: .ref 5001 :: st) μ := by
  intro p l e R s m args below meth c mc ms hc ho H locs cells slots lsA dv hw hS hl h1 h2
  subst hq
  obtain ⟨c1, c2, c3, c4, c5, c6, c7, c8, c9, c10, c11, c12, c13, c14, c15, c16, c17, c18, c19⟩ := id hc
  obtain ⟨hR, E, hE, hP, hD⟩ := id hw
  obtain ⟨sa, ml, e9, a1, a2, a3, a4⟩ : ∃ (sa : Nat) (ml : Int32), E = [(ad 5000, .inr (1, [.ref sa, .int 0, .int ml, .int (iI (μ 5000 0))])), (sa, .inl (cy 2, (μ 5002 0).toNat, .inl (fun j => iI (μ 5001 j))))] ∧
      (μ 5003 0 ≠ 0 → sa = ad 5001) ∧ (0 ≤ μ 5000 0 ∧ μ 5000 0 ≤ μ 5002 0) ∧ (μ 5002 0 = 16 ∨ μ 5002 0 = 22 ∨ μ 5002 0 = 46 ∨ μ 5002 0 = 94 ∨ μ 5002 0 = 190 ∨ μ 5002 0 = 382) ∧ ∀ j, -128 ≤ μ 5001 j ∧ μ 5001 j < 128 := by
    rcases hE with ⟨g, -⟩ | ⟨-, sa, ml, h⟩
    · omega
    · exact ⟨sa, ml, h⟩
  have esa := a1 hm
  subst esa
  rw [← List.append_assoc] at hP hD
  have he : ((wsl cy dv ad μ nn ++ E) ++ F9)[(wsl cy dv ad μ nn).length + 1]? = some (ad 5001, .inl (cy 2, (μ 5002 0).toNat, .inl (fun j => iI (μ 5001 j)))) := by
    rw [e9, List.append_assoc]
    exact ap_get rfl
  have hf : ((wsl cy dv ad μ nn ++ E) ++ F9)[(wsl cy dv ad μ nn ++ E).length + 0]? = some (ad q, .inl (cy 2, n, .inl g)) := ap_get h0
  have z0 : ¬ (iI 0 : Int32) < 0 := by decide
  have z1 : (iI 0 : Int32).toNatClampNeg = 0 := by decide
  have zc : (iI (n : Nat)).toNatClampNeg = n := iI_clamp (by omega)
  have zn : ¬ iI (n : Nat) < 0 := fun w => by
    have := (iI_lt (a := (n : Int)) (b := 0) ⟨by omega, by omega⟩ rng0).mp w
    omega
  refine va_copyi (ty := .byte) c1 c2 (c4.trans hl.1.symm) c5 (c6 _ hlk) (c6 _ mw_cp_n) (c6 _ mw_cp_s) (c6 _ mw_sys) c8.1 hP hD hS _ _ 2 2 he hf rfl rfl rfl z0 z0 zn (by rw [z1, zc]; omega) (by rw [z1, zc, Nat.zero_add]; exact Nat.le_refl n) (fun i _ => fit_by (a4 _)) (by omega) (by rw [av_sum]; refine Nat.le_trans ?_ c12; exact Nat.le_trans (Nat.add_le_add hW (show nativeFrameWords "java/lang/System" "arraycopy" 5 + 11 ≤ 32 by decide +kernel)) (by omega)) hd (fun H2 locs2 hP2 hD2 hS2 => ?_)
  rw [z1, zc, ap_set, List.append_assoc] at hP2 hD2
  exact gl_use K hc ho ⟨hR, E, hE, hP2, hD2⟩ hS2 hl h1 h2
end Copies
