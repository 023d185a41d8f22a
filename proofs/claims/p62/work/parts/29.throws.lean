/-! THROWS: the tables' words -/
def thr (own : String) (ik ic : Nat) (cls : String) (names : List String) : Prop := Bundle.fit cls = true ∧ (∀ n ∈ names, Bundle.fit n = true) ∧ Cond.classLink own ik cls ∈ aw ∧ Cond.initialized cls ∈ aw ∧ ∀ w ∈ vx_atS own ic cls names, w ∈ fw
theorem fw_sub {ws : List Cond} (ps : List Nat) (h : ws = ps.filterMap (fun i => tables_1[i]?)) (hg : ws.all fgood = true) : ∀ w ∈ ws, w ∈ fw := by
  intro w hw
  have h1 := List.all_eq_true.mp hg w hw
  rw [h] at hw
  obtain ⟨i, -, hi⟩ := List.mem_filterMap.mp hw
  exact List.mem_filter.mpr ⟨List.mem_append_right _ (List.mem_of_getElem? hi), h1⟩
def thn : List String := ["java/lang/RuntimeException", "java/lang/Exception"]
theorem th_atI : ∀ w ∈ vx_atS RX10 415 "java/lang/IndexOutOfBoundsException" thn, w ∈ fw := fw_sub [25, 624, 633, 638, 641, 643, 625, 626, 39, 40, 627, 632, 639, 659, 614, 660, 616, 661, 618, 628, 630, 620, 655, 656, 658, 620, 879, 880, 881, 649, 606, 649, 650, 651, 652, 608, 652, 653, 654, 655, 610, 878, 869, 870, 871, 636, 872, 873, 874, 875, 623, 622, 876] (by decide +kernel) (by decide +kernel)
theorem th_I : thr RX10 411 415 "java/lang/IndexOutOfBoundsException" thn := ⟨by decide +kernel, by decide +kernel, tb_in 868 (by decide +kernel) (by decide +kernel), tb_in 29 (by decide +kernel) (by decide +kernel), th_atI⟩
theorem th_atA : ∀ w ∈ vx_atS RX10 107 "java/lang/IllegalArgumentException" thn, w ∈ fw := fw_sub [25, 624, 633, 638, 641, 643, 625, 626, 39, 40, 627, 632, 639, 659, 614, 660, 616, 661, 618, 628, 630, 620, 655, 656, 658, 620, 1143, 1144, 1145, 649, 606, 649, 650, 651, 652, 608, 652, 653, 654, 655, 610, 1142, 1133, 1134, 1135, 635, 1136, 1137, 1138, 1139, 623, 622, 1140] (by decide +kernel) (by decide +kernel)
theorem th_A : thr RX10 103 107 "java/lang/IllegalArgumentException" thn := ⟨by decide +kernel, by decide +kernel, tb_in 1132 (by decide +kernel) (by decide +kernel), tb_in 32 (by decide +kernel) (by decide +kernel), th_atA⟩
theorem th_atS : ∀ w ∈ vx_atS RX10 97 "java/lang/IllegalStateException" thn, w ∈ fw := fw_sub [25, 624, 633, 638, 641, 643, 625, 626, 39, 40, 627, 632, 639, 659, 614, 660, 616, 661, 618, 628, 630, 620, 655, 656, 658, 620, 646, 647, 648, 649, 606, 649, 650, 651, 652, 608, 652, 653, 654, 655, 610, 645, 603, 604, 611, 612, 613, 615, 617, 619, 623, 622, 621] (by decide +kernel) (by decide +kernel)
theorem th_S : thr RX10 93 97 "java/lang/IllegalStateException" thn := ⟨by decide +kernel, by decide +kernel, tb_in 602 (by decide +kernel) (by decide +kernel), tb_in 28 (by decide +kernel) (by decide +kernel), th_atS⟩
section Throws
variable {z d kc ks : Nat} {y : MI} {Q : Option Value → Mem → Prop} {X : String → Mem → Prop} {pc : Nat} {ls st : List Value} {μ : Mem}
theorem vx_ot_aw {w : Cond} (h : w ∈ aw) : vx_ot w = true := by
  have := (List.mem_filter.mp h).2
  unfold vx_ot
  rw [this, Bool.or_true]
theorem vx_ot_fw {w : Cond} (h : w ∈ fw) : vx_ot w = true := by
  have := (List.mem_filter.mp h).2
  unfold fgood at this
  rw [Bool.and_eq_true] at this
  unfold vx_ot
  rw [this.1, Bool.true_or]
theorem go_throw {ik is ic i : Nat} {cls tx : String} {names : List String} (ht : thr y.1.cls ik ic cls names) (hi : sc_l[i]? = some (y.1.cls, is, tx)) (d0 : decode y.2.1 pc = .ok (.new ik, 3)) (d3 : decode y.2.1 (pc + 3) = .ok (.dup, 1)) (d4 : decode y.2.1 (pc + 4) = .ok (.ldc is, 2)) (d6 : decode y.2.1 (pc + 6) = .ok (.invokespecial ic, 3)) (d9 : decode y.2.1 (pc + 9) = .ok (.athrow, 1))
    (hq : 6 ≤ d ∧ names.length ≤ 2 ∧ 1 ≤ kc ∧ 6 ≤ ks) (hW : (st.map fun v => v.category).sum ≤ 8) (hh : y.2.2.2.2.1 = []) (K : X cls μ) : go z d kc ks y Q X pc ls st μ := by
  intro p l e R s m args below meth c D cy X0 mc ms nn ad hc H locs cells slots lsA dv hw hS hl h1 h2
  obtain ⟨c1, c2, c3, c4, c5, c6, c7, c8, c9, c10, c11, c12, c13, c14, c15, c16, c17, c18, c19⟩ := hc
  obtain ⟨t1, t2, t3, t4, t5⟩ := ht
  rw [hh] at c16
  refine vx_throwS (own := y.1.cls) (cls := cls) (text := tx) (names := names) (sa := ad (7000 + i)) (A := X0) c1 c2 c18 c5 t1 t2 (c6 _ t3) (c6 _ t4) (c8.2.1 i _ hi).1 (fun w hw => fw_at (t5 w hw) (c8.2.2.2.2.2.2.2.2.2.2 w (t5 w hw))) ?_ c8.2.2.1 c8.2.2.2.1 hS (hl.1.trans c4.symm) d0 d3 d4 d6 d9 (fun x hx => by rw [c16] at hx; cases hx) (by omega) (by rw [av_sum]; omega) (by omega) (by omega) c7 (fun t hA hz hq => ?_) hS.2.2 (by omega) (by omega)
  · intro w hw
    rcases List.mem_cons.mp hw with rfl | hw
    · exact vx_ot_aw t3
    · rcases List.mem_cons.mp hw with rfl | hw
      · exact vx_ot_aw t4
      · exact vx_ot_fw (t5 w hw)
  · obtain ⟨hR, E, hE, hP, hD⟩ := hw
    exact ⟨⟨μ, dv, K, hR, E, hE, hP.kept (fun k q hk => hq _ (va_at.lt (hP k q hk))), hD⟩, Nat.le_trans hS.1 hz, fun q h3 h4 => by rw [hq q (Nat.lt_of_lt_of_le h3 hS.1)]; exact hS.2.1 q h3 h4⟩
theorem go_throwW {ik is ic i : Nat} {cls tx : String} {names : List String} (ht : thr y.1.cls ik ic cls names) (hi : sc_l[i]? = some (y.1.cls, is, tx)) (d0 : decode y.2.1 pc = .ok (.new ik, 3)) (d3 : decode y.2.1 (pc + 3) = .ok (.dup, 1)) (d4 : decode y.2.1 (pc + 4) = .ok (.ldc_w is, 3)) (d7 : decode y.2.1 (pc + 7) = .ok (.invokespecial ic, 3)) (d10 : decode y.2.1 (pc + 10) = .ok (.athrow, 1))
    (hq : 6 ≤ d ∧ names.length ≤ 2 ∧ 1 ≤ kc ∧ 6 ≤ ks) (hW : (st.map fun v => v.category).sum ≤ 8) (hh : y.2.2.2.2.1 = []) (K : X cls μ) : go z d kc ks y Q X pc ls st μ := by
  intro p l e R s m args below meth c D cy X0 mc ms nn ad hc H locs cells slots lsA dv hw hS hl h1 h2
  obtain ⟨c1, c2, c3, c4, c5, c6, c7, c8, c9, c10, c11, c12, c13, c14, c15, c16, c17, c18, c19⟩ := hc
  obtain ⟨t1, t2, t3, t4, t5⟩ := ht
  rw [hh] at c16
  refine vx_throwSW (own := y.1.cls) (cls := cls) (text := tx) (names := names) (sa := ad (7000 + i)) (A := X0) c1 c2 c18 c5 t1 t2 (c6 _ t3) (c6 _ t4) (c8.2.1 i _ hi).1 (fun w hw => fw_at (t5 w hw) (c8.2.2.2.2.2.2.2.2.2.2 w (t5 w hw))) ?_ c8.2.2.1 c8.2.2.2.1 hS (hl.1.trans c4.symm) d0 d3 d4 d7 d10 (fun x hx => by rw [c16] at hx; cases hx) (by omega) (by rw [av_sum]; omega) (by omega) (by omega) c7 (fun t hA hz hq => ?_) hS.2.2 (by omega) (by omega)
  · intro w hw
    rcases List.mem_cons.mp hw with rfl | hw
    · exact vx_ot_aw t3
    · rcases List.mem_cons.mp hw with rfl | hw
      · exact vx_ot_aw t4
      · exact vx_ot_fw (t5 w hw)
  · obtain ⟨hR, E, hE, hP, hD⟩ := hw
    exact ⟨⟨μ, dv, K, hR, E, hE, hP.kept (fun k q hk => hq _ (va_at.lt (hP k q hk))), hD⟩, Nat.le_trans hS.1 hz, fun q h3 h4 => by rw [hq q (Nat.lt_of_lt_of_le h3 hS.1)]; exact hS.2.1 q h3 h4⟩
end Throws
/-! the class over a memory that is a chamber's part put into another -/
theorem h20 : is_ch 20 := by unfold is_ch; decide
theorem h41 : is_ch 41 := by unfold is_ch; decide
section BMode
variable {z d kc ks : Nat} {y : MI} {Q : Option Value → Mem → Prop} {X : String → Mem → Prop} {pc : Nat} {ls st : List Value} {μ σ : Mem} {c b : Nat}
theorem put_wo {i : Nat} {v : Int} (h : b < c ∨ c + 21 ≤ b) : wr (put c σ μ) b i v = put c σ (wr μ b i v) := by
  funext a j
  unfold wr put
  by_cases g : c ≤ a ∧ a < c + 21
  · rw [if_pos g, if_pos g, if_neg (by omega)]
  · rw [if_neg g, if_neg g]
theorem go_bget {idx ci j : Nat} {fs : List (Option Nat)} (hd : decode y.2.1 pc = .ok (.getfield idx, 3)) (hf : flk y.1.cls idx ci j) (hs : shp b = (0, ci, fs)) (hj : fs[j]? = some none) (hb : b < z) (ho : b < c ∨ c + 21 ≤ b) (K : rng (μ b j) → go z d kc ks y Q X (pc + 3) ls (.int (iI (μ b j)) :: st) (put c σ μ)) : go z d kc ks y Q X pc ls (.ref b :: st) (put c σ μ) :=
  go_getI hd hf hs hj hb (by rw [put_o ho]; exact K)
theorem go_bput {idx ci j : Nat} {v : Int} {fs : List (Option Nat)} (hd : decode y.2.1 pc = .ok (.putfield idx, 3)) (hf : fpk y.1.cls idx ci j .int) (hs : shp b = (0, ci, fs)) (hj : fs[j]? = some none) (hb : b < z) (ho : b < c ∨ c + 21 ≤ b) (hv : rng v) (K : go z d kc ks y Q X (pc + 3) ls st (put c σ (wr μ b j v))) : go z d kc ks y Q X pc ls (.int (iI v) :: .ref b :: st) (put c σ μ) :=
  go_putI hd hf hs hj hb hv (by rw [put_wo ho]; exact K)
theorem go_bial {n k : Nat} {i : Int} {fs : List (Option Nat)} (hd : decode y.2.1 pc = .ok (.iaload, 1)) (hs : shp b = (1, n, fs)) (hb : b < z) (ho : b < c ∨ c + 21 ≤ b) (hi : i = (k : Int)) (hk : k < n) (hn : n < 4000) (K : rng (μ b k) → go z d kc ks y Q X (pc + 1) ls (.int (iI (μ b k)) :: st) (put c σ μ)) : go z d kc ks y Q X pc ls (.int (iI i) :: .ref b :: st) (put c σ μ) :=
  go_iaload hd hs hb hi hk hn (by rw [put_o ho]; exact K)
theorem go_bzal {n k : Nat} {i : Int} {fs : List (Option Nat)} (hd : decode y.2.1 pc = .ok (.baload, 1)) (hs : shp b = (2, n, fs)) (hb : b < z) (ho : b < c ∨ c + 21 ≤ b) (hi : i = (k : Int)) (hk : k < n) (hn : n < 4000) (K : rng (μ b k) → go z d kc ks y Q X (pc + 1) ls (.int (iI (μ b k)) :: st) (put c σ μ)) : go z d kc ks y Q X pc ls (.int (iI i) :: .ref b :: st) (put c σ μ) :=
  go_zaload hd hs hb hi hk hn (by rw [put_o ho]; exact K)
end BMode
