/-! LONGS AND DOUBLES OF THE LAW'S ROWS -/
theorem shp_289 : shp 289 = (5, 1, []) := by decide +kernel
theorem shp_290 : shp 290 = (6, 1, []) := by decide +kernel
def dhi (v : UInt64) : Int := ((v.toNat / 4294967296 : Nat) : Int) - 2147483648
def dlo (v : UInt64) : Int := ((v.toNat % 4294967296 : Nat) : Int) - 2147483648
theorem dbl_v (v : UInt64) : dbl (dhi v) (dlo v) = v := by
  have h := v.toNat_lt
  unfold dbl dhi dlo
  rw [show (((v.toNat / 4294967296 : Nat) : Int) - 2147483648 + 2147483648).toNat = v.toNat / 4294967296 by omega, show (((v.toNat % 4294967296 : Nat) : Int) - 2147483648 + 2147483648).toNat = v.toNat % 4294967296 by omega, show v.toNat / 4294967296 * 4294967296 + v.toNat % 4294967296 = v.toNat by omega]
  exact UInt64.ofNat_toNat
theorem dhl_r (v : UInt64) : rng (dhi v) ∧ rng (dlo v) := by
  have h := v.toNat_lt
  unfold rng dhi dlo
  omega
theorem P_ext {D : va_G} {cl : List vw_C} {ws : va_W} {k a : Nat} {x x' : ClassId × vp_A} {H : Heap} (h : va_P D cl (ws.set k (a, .inl x)) H) (he : vp_cell x.1 x.2 = vp_cell x'.1 x'.2) : va_P D cl (ws.set k (a, .inl x')) H := by
  intro i q hq
  by_cases g : i = k
  · subst g
    have hl : i < ws.length := by
      have := (List.getElem?_eq_some_iff.mp hq).1
      rwa [List.length_set] at this
    rw [List.getElem?_set_self hl] at hq
    cases hq
    have h9 := h i _ (List.getElem?_set_self hl)
    show H[a]? = some (vp_cell x'.1 x'.2)
    rw [← he]
    exact h9
  · rw [List.getElem?_set_ne (Ne.symm g)] at hq
    exact h i q (by rw [List.getElem?_set_ne (Ne.symm g)]; exact hq)
theorem D_ext {B : Nat → Prop} {ws : va_W} {k a : Nat} {e e' : va_E} (h : va_D B (ws.set k (a, e))) : va_D B (ws.set k (a, e')) := by
  have key : ∀ (i : Nat) (q : Nat × va_E), (ws.set k (a, e'))[i]? = some q → ∃ q', (ws.set k (a, e))[i]? = some q' ∧ q'.1 = q.1 := by
    intro i q hq
    by_cases g : i = k
    · subst g
      have hl : i < ws.length := by
        have := (List.getElem?_eq_some_iff.mp hq).1
        rwa [List.length_set] at this
      rw [List.getElem?_set_self hl] at hq
      cases hq
      exact ⟨_, List.getElem?_set_self hl, rfl⟩
    · rw [List.getElem?_set_ne (Ne.symm g)] at hq
      exact ⟨q, by rw [List.getElem?_set_ne (Ne.symm g)]; exact hq, rfl⟩
  refine ⟨fun i j p q hi hj e9 => ?_, fun i q hq => ?_⟩
  · obtain ⟨p', h1, h2⟩ := key i p hi
    obtain ⟨q', h3, h4⟩ := key j q hj
    exact h.1 i j p' q' h1 h3 (by rw [h2, h4]; exact e9)
  · obtain ⟨q', h3, h4⟩ := key i q hq
    rw [← h4]
    exact h.2 i q' h3
theorem cell_1 {cA : ClassId} {f g : Nat → UInt64} (h : f 0 = g 0) : vp_cell cA (1, .inr (.inr (.inr (.inl f)))) = vp_cell cA (1, .inr (.inr (.inr (.inl g)))) := by
  rw [vp_cell_d, vp_cell_d]
  unfold arrV
  have e : (fun j : Fin 1 => Value.double (f j.val)) = fun j : Fin 1 => Value.double (g j.val) := by
    funext j
    have hj : j.val = 0 := by omega
    rw [hj, h]
  rw [e]
theorem i64_inj {a b : Int} (ha : rng a) (hb : rng b) : (iI a).toInt64 = (iI b).toInt64 ↔ a = b := by
  constructor
  · intro h
    have h1 := congrArg Int64.toInt h
    rw [Int32.toInt_toInt64, Int32.toInt_toInt64, iI_t ha, iI_t hb] at h1
    exact h1
  · intro h
    rw [h]
section Longs
variable {z d kc ks : Nat} {y : MI} {Q : Option Value → Mem → Prop} {X : String → Mem → Prop} {pc : Nat} {ls st : List Value} {μ : Mem}
theorem go_i2l {a : Int} (hd : decode y.2.1 pc = .ok (.i2l, 1)) (K : go z d kc ks y Q X (pc + 1) ls (.long (iI a).toInt64 :: st) μ) : go z d kc ks y Q X pc ls (.int (iI a) :: st) μ := by
  intro p l e R s m args below meth c D cy X0 mc ms nn ad hc H locs cells slots lsA dv hw hS hl h1 h2
  exact lv_i2l hc.1 hc.2.1 hd rfl (go_use K hc hw hS hl h1 h2)
theorem go_lconst0 (hd : decode y.2.1 pc = .ok (.lconst 0, 1)) (K : go z d kc ks y Q X (pc + 1) ls (.long (iI 0).toInt64 :: st) μ) : go z d kc ks y Q X pc ls st μ := by
  intro p l e R s m args below meth c D cy X0 mc ms nn ad hc H locs cells slots lsA dv hw hS hl h1 h2
  exact lv_lconst hc.1 hc.2.1 hd (by decide) (go_use K hc hw hS hl h1 h2)
theorem go_lconst1 (hd : decode y.2.1 pc = .ok (.lconst 1, 1)) (K : go z d kc ks y Q X (pc + 1) ls (.long (iI 1).toInt64 :: st) μ) : go z d kc ks y Q X pc ls st μ := by
  intro p l e R s m args below meth c D cy X0 mc ms nn ad hc H locs cells slots lsA dv hw hS hl h1 h2
  exact lv_lconst hc.1 hc.2.1 hd (by decide) (go_use K hc hw hS hl h1 h2)
theorem go_lastore {v : Int} (hd : decode y.2.1 pc = .ok (.lastore, 1)) (hz : 290 ≤ z) (hv : rng v) (K : go z d kc ks y Q X (pc + 1) ls st (wr μ 289 0 v)) : go z d kc ks y Q X pc ls (.long (iI v).toInt64 :: .int (iI 0) :: .ref 289 :: st) μ := by
  intro p l e R s m args below meth c D cy X0 mc ms nn ad hc H locs cells slots lsA dv hw hS hl h1 h2
  obtain ⟨c1, c2, c3, c4, c5, c6, c7, c8, c9, c10, c11⟩ := id hc
  obtain ⟨hR, E, hE, hP, hD⟩ := id hw
  have he : (wsl cy dv ad μ nn ++ E)[289]? = some (ad 289, .inl (cy 4, 1, .inr (.inl (fun j => (iI (μ 289 j)).toInt64)))) := by rw [wsl_get (by omega), ent_5 shp_289]
  refine va_last c1 c2 c8.1 hP hD hS 289 4 he rfl (iI_in (k := 0) (by decide) (by decide)) hd (fun H1 locs1 hP1 hD1 hS1 => ?_)
  have ef : vp_updL (fun j => (iI (μ 289 j)).toInt64) (iI ((0 : Nat) : Int)).toNatClampNeg (iI v).toInt64 = fun j => (iI (wr μ 289 0 v 289 j)).toInt64 := by
    rw [iI_clamp (by decide)]
    funext j
    unfold vp_updL wr
    by_cases h : j = 0 <;> simp [h]
  rw [show (iI 0 : Int32) = iI ((0 : Nat) : Int) from rfl, ef] at hP1 hD1
  exact go_use K hc (wd_put hR hE hv (by omega) c10 (ent_5 shp_289).symm hP1 hD1) hS1 hl h1 h2
theorem go_laload (hd : decode y.2.1 pc = .ok (.laload, 1)) (hz : 290 ≤ z) (K : rng (μ 289 0) → go z d kc ks y Q X (pc + 1) ls (.long (iI (μ 289 0)).toInt64 :: st) μ) : go z d kc ks y Q X pc ls (.int (iI 0) :: .ref 289 :: st) μ := by
  intro p l e R s m args below meth c D cy X0 mc ms nn ad hc H locs cells slots lsA dv hw hS hl h1 h2
  obtain ⟨c1, c2, c3, c4, c5, c6, c7, c8, c9, c10, c11⟩ := id hc
  obtain ⟨hR, E, hE, hP, hD⟩ := id hw
  have he : (wsl cy dv ad μ nn ++ E)[289]? = some (ad 289, .inl (cy 4, 1, .inr (.inl (fun j => (iI (μ 289 j)).toInt64)))) := by rw [wsl_get (by omega), ent_5 shp_289]
  refine va_lald c1 c2 c8.1 hP 289 4 he rfl (iI_in (k := 0) (by decide) (by decide)) hd ?_
  rw [show (iI 0 : Int32) = iI ((0 : Nat) : Int) from rfl, iI_clamp (by decide)]
  exact go_use (K (hR 289 0)) hc hw hS hl h1 h2
theorem go_lcmp {a b : Int} (hd : decode y.2.1 pc = .ok (.lcmp, 1)) (ha : rng a) (hb : rng b) (K : ∀ c : Int, -1 ≤ c ∧ c ≤ 1 → (c = 0 ↔ a = b) → go z d kc ks y Q X (pc + 1) ls (.int (iI c) :: st) μ) : go z d kc ks y Q X pc ls (.long (iI b).toInt64 :: .long (iI a).toInt64 :: st) μ := by
  intro p l e R s m args below meth c D cy X0 mc ms nn ad hc H locs cells slots lsA dv hw hS hl h1 h2
  refine W.lcmp hc.1 hc.2.1 hd ?_
  unfold lg_cmp
  by_cases g1 : (iI a).toInt64 > (iI b).toInt64
  · rw [if_pos g1]
    refine go_use (K 1 (by decide) ⟨fun w => absurd w (by decide), fun w => ?_⟩) hc hw hS hl h1 h2
    rw [w, gt_iff_lt, Int64.lt_iff_toInt_lt] at g1
    omega
  · rw [if_neg g1]
    by_cases g2 : (iI a).toInt64 = (iI b).toInt64
    · rw [if_pos g2]
      exact go_use (K 0 (by decide) ⟨fun _ => (i64_inj ha hb).mp g2, fun _ => rfl⟩) hc hw hS hl h1 h2
    · rw [if_neg g2]
      exact go_use (K (-1) (by decide) ⟨fun w => absurd w (by decide), fun w => absurd ((i64_inj ha hb).mpr w) g2⟩) hc hw hS hl h1 h2
theorem go_dastore {v : UInt64} (hd : decode y.2.1 pc = .ok (.dastore, 1)) (hz : 291 ≤ z) (K : go z d kc ks y Q X (pc + 1) ls st (wr (wr μ 290 0 (dhi v)) 290 1 (dlo v))) : go z d kc ks y Q X pc ls (.double v :: .int (iI 0) :: .ref 290 :: st) μ := by
  intro p l e R s m args below meth c D cy X0 mc ms nn ad hc H locs cells slots lsA dv hw hS hl h1 h2
  obtain ⟨c1, c2, c3, c4, c5, c6, c7, c8, c9, c10, c11⟩ := id hc
  obtain ⟨hR, E, hE, hP, hD⟩ := id hw
  have he : (wsl cy dv ad μ nn ++ E)[290]? = some (ad 290, .inl (cy 5, 1, .inr (.inr (.inr (.inl (fun _ => dbl (μ 290 0) (μ 290 1))))))) := by rw [wsl_get (by omega), ent_6 shp_290]
  refine va_dast c1 c2 c8.1 hP hD hS 290 5 he rfl (iI_in (k := 0) (by decide) (by decide)) hd (fun H1 locs1 hP1 hD1 hS1 => ?_)
  have hP2 := P_ext (x' := (cy 5, 1, .inr (.inr (.inr (.inl (fun _ => v)))))) hP1 (cell_1 (by unfold vf_upd; rw [show (iI 0 : Int32).toNatClampNeg = 0 by decide, if_pos rfl]))
  have hD2 := D_ext (e' := .inl (cy 5, 1, .inr (.inr (.inr (.inl (fun _ => v)))))) hD1
  have ee : (.inl (cy 5, 1, .inr (.inr (.inr (.inl (fun _ => v))))) : va_E) = ent cy dv ad (wr (wr μ 290 0 (dhi v)) 290 1 (dlo v)) 290 := by
    rw [ent_6 shp_290, wr_ni (by decide), wr_s, wr_s, dbl_v]
  have key : (wsl cy dv ad μ nn ++ E).set 290 (ad 290, ent cy dv ad (wr (wr μ 290 0 (dhi v)) 290 1 (dlo v)) 290) = wsl cy dv ad (wr (wr μ 290 0 (dhi v)) 290 1 (dlo v)) nn ++ E := by
    have k2 := wsl_set (cy := cy) (dv := dv) (ad := ad) (μ := wr μ 290 0 (dhi v)) (n := nn) (a := 290) (i := 1) (v := dlo v) (E := E) (by omega) rfl
    have k1 := wsl_set (cy := cy) (dv := dv) (ad := ad) (μ := μ) (n := nn) (a := 290) (i := 0) (v := dhi v) (E := E) (by omega) rfl
    rw [← k2, ← k1, List.set_set]
  rw [ee, key] at hP2 hD2
  exact go_use K hc ⟨wr_rng (wr_rng hR (dhl_r v).1) (dhl_r v).2, E, sbx_off (sbx_off hE (fun b j hb => wr_na (by omega))) (fun b j hb => wr_na (by omega)), hP2, hD2⟩ hS1 hl h1 h2
theorem go_daload (hd : decode y.2.1 pc = .ok (.daload, 1)) (hz : 291 ≤ z) (K : go z d kc ks y Q X (pc + 1) ls (.double (dbl (μ 290 0) (μ 290 1)) :: st) μ) : go z d kc ks y Q X pc ls (.int (iI 0) :: .ref 290 :: st) μ := by
  intro p l e R s m args below meth c D cy X0 mc ms nn ad hc H locs cells slots lsA dv hw hS hl h1 h2
  obtain ⟨c1, c2, c3, c4, c5, c6, c7, c8, c9, c10, c11⟩ := id hc
  obtain ⟨hR, E, hE, hP, hD⟩ := id hw
  have he : (wsl cy dv ad μ nn ++ E)[290]? = some (ad 290, .inl (cy 5, 1, .inr (.inr (.inr (.inl (fun _ => dbl (μ 290 0) (μ 290 1))))))) := by rw [wsl_get (by omega), ent_6 shp_290]
  exact va_dald c1 c2 c8.1 hP 290 5 he rfl (iI_in (k := 0) (by decide) (by decide)) hd (go_use K hc hw hS hl h1 h2)
theorem go_f2d {v : UInt32} (hd : decode y.2.1 pc = .ok (.f2d, 1)) (hn : vf_n64 (FP.f2d v)) (K : go z d kc ks y Q X (pc + 1) ls (.double (FP.f2d v) :: st) μ) : go z d kc ks y Q X pc ls (.float v :: st) μ := by
  intro p l e R s m args below meth c D cy X0 mc ms nn ad hc H locs cells slots lsA dv hw hS hl h1 h2
  exact lv_f2d hc.1 hc.2.1 hd hn (go_use K hc hw hS hl h1 h2)
end Longs
