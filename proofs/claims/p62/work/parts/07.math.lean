/-! links to Math and System -/
theorem ml_X1_110 : Cond.methodLink RX1 110 Lib.Math.abs.name ∈ aw := tb_in 1245 (by decide +kernel) (by decide +kernel)
theorem ml_X1_200 : Cond.methodLink RX1 200 Lib.Math.min.name ∈ aw := tb_in 1282 (by decide +kernel) (by decide +kernel)
theorem ml_X10_301 : Cond.methodLink RX10 301 Lib.Math.max.name ∈ aw := tb_in 949 (by decide +kernel) (by decide +kernel)
theorem ml_X4_41 : Cond.methodLink RX4 41 Lib.Math.min.name ∈ aw := tb_in 1280 (by decide +kernel) (by decide +kernel)
theorem ml_X4_47 : Cond.methodLink RX4 47 Lib.Math.max.name ∈ aw := tb_in 1281 (by decide +kernel) (by decide +kernel)
theorem ml_X7_106 : Cond.methodLink RX7 106 Lib.Math.abs.name ∈ aw := tb_in 1275 (by decide +kernel) (by decide +kernel)
theorem ml_X9_77 : Cond.methodLink RX9 77 Lib.Math.min.name ∈ aw := tb_in 487 (by decide +kernel) (by decide +kernel)
theorem ml_X2_31 : Cond.methodLink RX2 31 Lib.Math.min.name ∈ aw := tb_in 1331 (by decide +kernel) (by decide +kernel)
theorem ml_X0_31 : Cond.methodLink RX0 31 arraycopyName ∈ aw := tb_in 697 (by decide +kernel) (by decide +kernel)
theorem ml_X3_24 : Cond.methodLink RX3 24 arraycopyName ∈ aw := tb_in 682 (by decide +kernel) (by decide +kernel)
theorem ml_X4_31 : Cond.methodLink RX4 31 arraycopyName ∈ aw := tb_in 687 (by decide +kernel) (by decide +kernel)
theorem ml_X5_25 : Cond.methodLink RX5 25 arraycopyName ∈ aw := tb_in 692 (by decide +kernel) (by decide +kernel)
theorem ml_X7_49 : Cond.methodLink RX7 49 arraycopyName ∈ aw := tb_in 537 (by decide +kernel) (by decide +kernel)
/-! Math and System.arraycopy -/
theorem mw_min_s : Cond.static Lib.Math.min.name ∈ aw := tb_in 488 (by decide +kernel) (by decide +kernel)
theorem mw_min_c : Cond.code Lib.Math.min.name Lib.Math.min.code 2 (some .int) ∈ aw := tb_in 489 (by decide +kernel) (by decide +kernel)
theorem mw_max_s : Cond.static Lib.Math.max.name ∈ aw := tb_in 950 (by decide +kernel) (by decide +kernel)
theorem mw_max_c : Cond.code Lib.Math.max.name Lib.Math.max.code 2 (some .int) ∈ aw := tb_in 951 (by decide +kernel) (by decide +kernel)
theorem mw_abs_s : Cond.static Lib.Math.abs.name ∈ aw := tb_in 1246 (by decide +kernel) (by decide +kernel)
theorem mw_abs_c : Cond.code Lib.Math.abs.name Lib.Math.abs.code 1 (some .int) ∈ aw := tb_in 1247 (by decide +kernel) (by decide +kernel)
theorem mw_math : Cond.initialized "java/lang/Math" ∈ aw := tb_in 18 (by decide +kernel) (by decide +kernel)
theorem mw_sys : Cond.initialized "java/lang/System" ∈ aw := tb_in 19 (by decide +kernel) (by decide +kernel)
theorem mw_cp_s : Cond.static arraycopyName ∈ aw := tb_in 538 (by decide +kernel) (by decide +kernel)
theorem mw_cp_n : Cond.native arraycopyName ∈ aw := tb_in 539 (by decide +kernel) (by decide +kernel)
section Math2
variable {z d kc ks : Nat} {y : MI} {Q : Option Value → Mem → Prop} {X : String → Mem → Prop} {pc : Nat} {ls st : List Value} {μ : Mem}
theorem go_mmin {idx : Nat} {a b : Int} (hd : decode y.2.1 pc = .ok (.invokestatic idx, 3)) (hlk : Cond.methodLink y.1.cls idx Lib.Math.min.name ∈ aw) (hdd : 1 ≤ d) (hW : (st.map fun v => v.category).sum ≤ 8) (ha : rng a) (hb : rng b) (K : go z d kc ks y Q X (pc + 3) ls (.int (iI (min a b)) :: st) μ) : go z d kc ks y Q X pc ls (.int (iI b) :: .int (iI a) :: st) μ := by
  intro p l e R s m args below meth c D cy X0 mc ms nn ad hc H locs cells slots lsA dv hw hS hl h1 h2
  obtain ⟨c1, c2, c3, c4, c5, c6, c7, c8, c9, c10, c11, c12, c13, c14, c15, c16⟩ := id hc
  refine va_mmin c1 c2 (c4.trans hl.1.symm) c5 (c6 _ hlk) (c6 _ mw_min_s) (c6 _ mw_math) (c6 _ mw_min_c) (by omega) (by rw [av_sum]; omega) (by omega) (by omega) hd ?_
  rw [show (if iI b < iI a then iI b else iI a) = iI (min a b) by
    by_cases h : b < a
    · rw [if_pos ((iI_lt hb ha).mpr h), Int.min_def, if_neg (by omega)]
    · rw [if_neg (fun q => h ((iI_lt hb ha).mp q)), Int.min_def, if_pos (by omega)]]
  exact go_use K hc hw hS hl h1 h2
theorem go_mmax {idx : Nat} {a b : Int} (hd : decode y.2.1 pc = .ok (.invokestatic idx, 3)) (hlk : Cond.methodLink y.1.cls idx Lib.Math.max.name ∈ aw) (hdd : 1 ≤ d) (hW : (st.map fun v => v.category).sum ≤ 8) (ha : rng a) (hb : rng b) (K : go z d kc ks y Q X (pc + 3) ls (.int (iI (max a b)) :: st) μ) : go z d kc ks y Q X pc ls (.int (iI b) :: .int (iI a) :: st) μ := by
  intro p l e R s m args below meth c D cy X0 mc ms nn ad hc H locs cells slots lsA dv hw hS hl h1 h2
  obtain ⟨c1, c2, c3, c4, c5, c6, c7, c8, c9, c10, c11, c12, c13, c14, c15, c16⟩ := id hc
  refine va_mmax c1 c2 (c4.trans hl.1.symm) c5 (c6 _ hlk) (c6 _ mw_max_s) (c6 _ mw_math) (c6 _ mw_max_c) (by omega) (by rw [av_sum]; omega) (by omega) (by omega) hd ?_
  rw [show (if iI a < iI b then iI b else iI a) = iI (max a b) by
    by_cases h : a < b
    · rw [if_pos ((iI_lt ha hb).mpr h), Int.max_def, if_pos (by omega)]
    · rw [if_neg (fun q => h ((iI_lt ha hb).mp q))]
      congr 1; omega]
  exact go_use K hc hw hS hl h1 h2
theorem go_mabs {idx : Nat} {a : Int} (hd : decode y.2.1 pc = .ok (.invokestatic idx, 3)) (hlk : Cond.methodLink y.1.cls idx Lib.Math.abs.name ∈ aw) (hdd : 1 ≤ d) (hW : (st.map fun v => v.category).sum ≤ 8) (ha : rng a) (K : go z d kc ks y Q X (pc + 3) ls (.int (iI (a.natAbs : Int)) :: st) μ) : go z d kc ks y Q X pc ls (.int (iI a) :: st) μ := by
  intro p l e R s m args below meth c D cy X0 mc ms nn ad hc H locs cells slots lsA dv hw hS hl h1 h2
  obtain ⟨c1, c2, c3, c4, c5, c6, c7, c8, c9, c10, c11, c12, c13, c14, c15, c16⟩ := id hc
  refine va_mabs c1 c2 (c4.trans hl.1.symm) c5 (c6 _ hlk) (c6 _ mw_abs_s) (c6 _ mw_math) (c6 _ mw_abs_c) (by omega) (by rw [av_sum]; omega) (by omega) (by omega) hd ?_
  rw [show (if 0 ≤ iI a then iI a else 0 - iI a) = iI (a.natAbs : Int) by
    by_cases h : 0 ≤ a
    · rw [if_pos (show (0 : Int32) ≤ iI a from (iI_le rng0 ha).mpr h)]; congr 1; omega
    · rw [if_neg (show ¬ (0 : Int32) ≤ iI a from fun q => h ((iI_le rng0 ha).mp q))]
      show iI 0 - iI a = _
      rw [iI_sub]; congr 1; omega]
  exact go_use K hc hw hS hl h1 h2
/-- the first n of row a0 copied into row a -/
def cpy (μ : Mem) (a0 a n : Nat) : Mem := fun b j => if b = a ∧ j < n then μ a0 j else μ b j
theorem cpy_in {μ : Mem} {a0 a n j : Nat} (h : j < n) : cpy μ a0 a n a j = μ a0 j := if_pos ⟨rfl, h⟩
theorem cpy_na {μ : Mem} {a0 a n b j : Nat} (h : b ≠ a) : cpy μ a0 a n b j = μ b j := if_neg (fun q => h q.1)
theorem cpy_nj {μ : Mem} {a0 a n b j : Nat} (h : n ≤ j) : cpy μ a0 a n b j = μ b j := if_neg (fun q => absurd q.2 (by omega))
theorem cpy_rng {μ : Mem} (h : ∀ a i, rng (μ a i)) {a0 a n : Nat} : ∀ b j, rng (cpy μ a0 a n b j) := by
  intro b j
  unfold cpy
  split
  · exact h a0 j
  · exact h b j
theorem wsl_setM {cy : Nat → ClassId} {dv : UInt64} {ad : Nat → Nat} {μ μ' : Mem} {n a : Nat} {E : va_W} (h : a < n) (ho : ∀ b j, b ≠ a → μ' b j = μ b j) {e : va_E} (he : e = ent cy dv ad μ' a) : (wsl cy dv ad μ n ++ E).set a (ad a, e) = wsl cy dv ad μ' n ++ E := by
  have hl : a < (wsl cy dv ad μ n).length := by simp [wsl, h]
  rw [List.set_append_left _ _ hl]
  congr 1
  apply List.ext_getElem?
  intro j
  by_cases hj : j = a
  · subst hj
    rw [List.getElem?_set_self hl]
    simp [wsl, h, he]
  · rw [List.getElem?_set_ne (Ne.symm hj)]
    by_cases hjn : j < n
    · simp only [wsl, List.getElem?_map, List.getElem?_range hjn, Option.map_some]
      rw [ent_off (fun i => ho j i hj)]
    · simp [wsl, hjn]
theorem go_copy {idx a0 a n0 n1 k : Nat} {n : Int} {f0 f1 : List (Option Nat)} (hd : decode y.2.1 pc = .ok (.invokestatic idx, 3)) (hlk : Cond.methodLink y.1.cls idx arraycopyName ∈ aw) (hs0 : shp a0 = (1, n0, f0)) (hs : shp a = (1, n1, f1)) (ha0 : a0 < z) (ha : a < z) (hn : n = (k : Int)) (hk0 : k ≤ n0) (hk1 : k ≤ n1) (hk : k < 4000) (hdd : 1 ≤ d) (hW : (st.map fun v => v.category).sum ≤ 8)
    (K : go z d kc ks y Q X (pc + 3) ls st (cpy μ a0 a k)) : go z d kc ks y Q X pc ls (.int (iI n) :: .int (iI 0) :: .ref a :: .int (iI 0) :: .ref a0 :: st) μ := by
  intro p l e R s m args below meth c D cy X0 mc ms nn ad hc H locs cells slots lsA dv hw hS hl h1 h2
  subst hn
  obtain ⟨c1, c2, c3, c4, c5, c6, c7, c8, c9, c10, c11, c12, c13, c14, c15, c16⟩ := id hc
  obtain ⟨hR, E, hE, hP, hD⟩ := id hw
  have he0 : (wsl cy dv ad μ nn ++ E)[a0]? = some (ad a0, .inl (cy 0, n0, .inl (fun j => iI (μ a0 j)))) := by rw [wsl_get (by omega), ent_1 hs0]
  have he : (wsl cy dv ad μ nn ++ E)[a]? = some (ad a, .inl (cy 0, n1, .inl (fun j => iI (μ a j)))) := by rw [wsl_get (by omega), ent_1 hs]
  have z0 : ¬ (iI 0 : Int32) < 0 := by decide
  have z1 : (iI 0 : Int32).toNatClampNeg = 0 := by decide
  have zn : ¬ iI (k : Int) < 0 := fun q => by
    have := (iI_lt (a := (k : Int)) (b := 0) ⟨by omega, by omega⟩ rng0).mp q
    omega
  have hnw : nativeFrameWords "java/lang/System" "arraycopy" 5 ≤ 20 := by decide
  refine va_copyi (ty := .int) c1 c2 (c4.trans hl.1.symm) c5 (c6 _ hlk) (c6 _ mw_cp_n) (c6 _ mw_cp_s) (c6 _ mw_sys) c8.1 hP hD hS a0 a 0 0 he0 he rfl rfl rfl z0 z0 zn (by rw [z1, iI_clamp (by omega)]; omega) (by rw [z1, iI_clamp (by omega)]; omega) (fun _ _ => rfl) (by omega) (by rw [av_sum]; omega) hd (fun H1 locs1 hP1 hD1 hS1 => ?_)
  have ex : va_cpy (fun j => iI (μ a0 j)) (fun j => iI (μ a j)) (iI 0 : Int32).toNatClampNeg (iI 0 : Int32).toNatClampNeg (iI (k : Int)).toNatClampNeg = fun j => iI (cpy μ a0 a k a j) := by
    rw [z1, iI_clamp (by omega)]
    funext j
    unfold va_cpy cpy
    by_cases h : j < k <;> simp [h]
  rw [ex, wsl_setM (μ' := cpy μ a0 a k) (by omega) (fun b j hb => cpy_na hb) (ent_1 hs).symm] at hP1 hD1
  exact go_use K hc ⟨cpy_rng hR, E, sbx_off hE (fun b j hb => cpy_na (by omega)), hP1, hD1⟩ hS1 hl h1 h2
end Math2
