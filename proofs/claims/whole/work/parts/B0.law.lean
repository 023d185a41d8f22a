/-! THE LAW'S LOOP: rules, the ends of its cases -/
def mLaw (L : Nat) (xs : Nat → Int32) : MI := (yL_law, cL_law, 9, some .boolean, [], some (L, xs))
/-- the int at place k of the script -/
abbrev xi (xs : Nat → Int32) (k : Nat) : Int := (xs k).toInt
section LawRules
variable {L : Nat} {xs : Nat → Int32} {z d kc ks : Nat} {Q : Option Value → Mem → Prop} {X : String → Mem → Prop} {pc : Nat} {ls st : List Value} {μ : Mem}
theorem go_sld {k : Nat} {i : Int} (hd : decode cL_law pc = .ok (.iaload, 1)) (hi : i = (k : Int)) (hk : k < L) (hL : L ≤ 3072) (K : go z d kc ks (mLaw L xs) Q X (pc + 1) ls (.int (iI (xi xs k)) :: st) μ) : go z d kc ks (mLaw L xs) Q X pc ls (.int (iI i) :: .ref 6000 :: st) μ := by
  intro p l e R s m args below meth c D cy X0 mc ms nn ad hc H locs cells slots lsA dv hw hS hl h1 h2
  subst hi
  obtain ⟨c1, c2, c3, c4, c5, c6, c7, c8, c9, c10, c11, c12, c13, c14, c15, c16, c17, c18, c19⟩ := id hc
  obtain ⟨g1, g2, g3⟩ := c19 L xs rfl
  refine va_sld c1 c2 g1 g2 (show ¬ (X0 ≤ ad 6000) from Nat.not_le.mpr g3) hS (iI_in hk (by omega)) hd ?_
  rw [iI_clamp (by omega), ← iI_as (xs k)]
  exact go_use K hc hw hS hl h1 h2
theorem go_slen (hd : decode cL_law pc = .ok (.arraylength, 1)) (hL : L ≤ 3072) (K : go z d kc ks (mLaw L xs) Q X (pc + 1) ls (.int (iI (L : Nat)) :: st) μ) : go z d kc ks (mLaw L xs) Q X pc ls (.ref 6000 :: st) μ := by
  intro p l e R s m args below meth c D cy X0 mc ms nn ad hc H locs cells slots lsA dv hw hS hl h1 h2
  obtain ⟨c1, c2, c3, c4, c5, c6, c7, c8, c9, c10, c11, c12, c13, c14, c15, c16, c17, c18, c19⟩ := id hc
  obtain ⟨g1, g2, g3⟩ := c19 L xs rfl
  refine va_slen c1 c2 g1 g2 (show ¬ (X0 ≤ ad 6000) from Nat.not_le.mpr g3) hS hd ?_
  rw [iI_of (by omega)]
  exact go_use K hc hw hS hl h1 h2
end LawRules
section LawRules2
variable {y : MI} {z d kc ks : Nat} {Q : Option Value → Mem → Prop} {X : String → Mem → Prop} {pc : Nat} {ls st : List Value} {μ : Mem}
theorem lh_fgt {ad : Nat → Nat} {lsA : Array Slot} {nL : Nat} {ls : List Value} {i : Nat} (h : lh ad lsA nL ls) : lh ad lsA nL (ls.set i .null) := by
  refine ⟨h.1, h.2.1, fun w hw => ?_, by rw [List.length_set]; exact h.2.2.2.1, fun j w hj hn => ?_⟩
  · rcases List.mem_or_eq_of_mem_set hw with h1 | h1
    · exact h.2.2.1 w h1
    · rw [h1]; rfl
  · by_cases e : i = j
    · subst e
      have hl : i < ls.length := by
        have := (List.getElem?_eq_some_iff.mp hj).1
        rwa [List.length_set] at this
      rw [List.getElem?_set_self hl] at hj
      cases hj
      exact absurd rfl hn
    · rw [List.getElem?_set_ne e] at hj
      exact h.2.2.2.2 j w hj hn
/-- a local is forgotten -/
theorem go_fgt (i : Nat) (K : go z d kc ks y Q X pc (ls.set i .null) st μ) : go z d kc ks y Q X pc ls st μ := by
  intro p l e R s m args below meth c D cy X0 mc ms nn ad hc H locs cells slots lsA dv hw hS hl h1 h2
  exact go_use K hc hw hS (lh_fgt hl) h1 h2
theorem go_rng (K : (∀ a i, rng (μ a i)) → go z d kc ks y Q X pc ls st μ) : go z d kc ks y Q X pc ls st μ := by
  intro p l e R s m args below meth c D cy X0 mc ms nn ad hc H locs cells slots lsA dv hw hS hl h1 h2
  exact go_use (K hw.1) hc hw hS hl h1 h2
theorem go_widen {kc' ks' : Nat} (h1 : kc ≤ kc') (h2 : ks ≤ ks') (K : go z d kc ks y Q X pc ls st μ) : go z d kc' ks' y Q X pc ls st μ := by
  intro p l e R s m args below meth c D cy X0 mc ms nn ad hc H locs cells slots lsA dv hw hS hl g1 g2
  exact go_use K hc hw hS hl (by omega) (by omega)
theorem m_thrown {Q : Option Value → Mem → Prop} {X : String → Mem → Prop} {μ : Mem} (K : Q (some (.int (iI (μ 276 7)))) μ) : mt 289 0 0 0 mX11_thrown [.ref 276] Q X μ := by
  show go 289 0 0 0 mX11_thrown Q X 0 [.ref 276] [] _
  refine go_aload_n (y := mX11_thrown) (pc := 0) dX11_thrown_0 rfl rfl ?_
  refine go_getI (y := mX11_thrown) (pc := 1) dX11_thrown_1 fl_X11_83 rfl rfl (by decide) (fun r1 => ?_)
  exact go_ireturn (y := mX11_thrown) (pc := 4) dX11_thrown_4 rfl K
theorem and63 (a : Int) : ∃ k : Nat, k < 64 ∧ iI a &&& iI 63 = iI (k : Nat) := by
  have h : ((iI a).toBitVec &&& (iI 63).toBitVec).toNat ≤ 63 := by
    rw [BitVec.toNat_and]
    exact Nat.le_trans Nat.and_le_right (by decide)
  refine ⟨((iI a).toBitVec &&& (iI 63).toBitVec).toNat, by omega, ?_⟩
  apply i32_ext
  rw [iI_natW (by omega)]
  rfl
end LawRules2
/-- the locals at the loop's head -/
abbrev lLaw (i : Nat) : List Value := [.ref 6000, .ref 0, .ref 276, .ref 289, .ref 290, .int (iI (i : Nat)), .null, .null, .null]
section Tails
variable {L : Nat} {xs : Nat → Int32} {kc ks : Nat} {Q : Option Value → Mem → Prop} {X : String → Mem → Prop} {pc : Nat} {μ : Mem} {i : Nat} {w6 w7 : Value}
/-- behind the model's call: an int -/
theorem tlI {k v b : Int} {off : Int} (d0 : decode cL_law pc = .ok (.istore 7, 2)) (d2 : decode cL_law (pc + 2) = .ok (.aload_n 2, 1)) (d3 : decode cL_law (pc + 3) = .ok (.invokevirtual 152, 3)) (d6 : decode cL_law (pc + 6) = .ok (.iload 6, 2)) (d8 : decode cL_law (pc + 8) = .ok (.if_icmp .eq 5, 3))
    (d13 : decode cL_law (pc + 13) = .ok (.iload 6, 2)) (d15 : decode cL_law (pc + 15) = .ok (.ifCond .ne 15, 3)) (d18 : decode cL_law (pc + 18) = .ok (.aload_n 3, 1)) (d19 : decode cL_law (pc + 19) = .ok (.iconst 0, 1)) (d20 : decode cL_law (pc + 20) = .ok (.laload, 1)) (d21 : decode cL_law (pc + 21) = .ok (.iload 7, 2)) (d23 : decode cL_law (pc + 23) = .ok (.i2l, 1)) (d24 : decode cL_law (pc + 24) = .ok (.lcmp, 1)) (d25 : decode cL_law (pc + 25) = .ok (.ifCond .eq 5, 3)) (d30 : decode cL_law (pc + 30) = .ok (.goto off, 3)) (ho : ((pc + 30 : Nat) : Int) + off = ((2940 : Nat) : Int))
    (hk : 0 ≤ k ∧ k ≤ 3) (hv : k = 0 → rng v) (e7 : μ 276 7 = k) (hI : INV μ) (e0 : k = 0 → iI b = iI v ∧ μ 289 0 = v) (K : ∀ μ', INV μ' → go 291 20 kc ks (mLaw L xs) Q X 2940 (lLaw i) [] μ') :
    go 291 20 kc ks (mLaw L xs) Q X pc [.ref 6000, .ref 0, .ref 276, .ref 289, .ref 290, .int (iI (i : Nat)), .int (iI k), w7, .null] [.int (iI b)] μ := by
  refine go_istore (y := mLaw L xs) (pc := pc) d0 (by show 7 < 9; decide) ?_
  refine go_aload_n (y := mLaw L xs) (pc := pc + 2) d2 rfl rfl ?_
  refine go_callV0 (y := mLaw L xs) (pc := pc + 3) (y' := mX11_thrown) (z' := 289) (d' := 0) (kc' := 0) (ks' := 0) (kc2 := kc) (ks2 := ks) d3 ml_L_152 ok_X11_thrown (show shp 276 = _ from rfl) ⟨_, _, rfl⟩ (by decide) trivial ⟨by decide, by decide, by decide, by omega, by omega⟩ ?_ rfl (m_thrown ?_)
  · simp
  rw [e7]
  refine go_iload (y := mLaw L xs) (pc := pc + 6) d6 rfl ?_
  refine go_icmp_eq (y := mLaw L xs) (pc := pc + 8) (tgt := pc + 13) d8 (by omega) (by omega) (by omega) (fun _ => ?_) (fun g => absurd rfl g)
  refine go_iload (y := mLaw L xs) (pc := pc + 13) d13 rfl ?_
  have last : go 291 20 kc ks (mLaw L xs) Q X (pc + 30) [.ref 6000, .ref 0, .ref 276, .ref 289, .ref 290, .int (iI (i : Nat)), .int (iI k), .int (iI b), .null] [] μ := by
    refine go_goto (y := mLaw L xs) (pc := pc + 30) (tgt := 2940) d30 ho ?_
    exact go_fgt 6 (go_fgt 7 (K μ hI))
  refine go_if_ne (y := mLaw L xs) (pc := pc + 15) (tgt := pc + 30) d15 (by omega) (by omega) (fun _ => last) (fun g => ?_)
  obtain ⟨f1, f2⟩ := e0 g
  have hv := hv g
  rw [f1] at last ⊢
  refine go_aload_n (y := mLaw L xs) (pc := pc + 18) d18 rfl rfl ?_
  refine go_iconst (y := mLaw L xs) (pc := pc + 19) d19 ?_
  refine go_laload (y := mLaw L xs) (pc := pc + 20) d20 (by decide) (fun r => ?_)
  refine go_iload (y := mLaw L xs) (pc := pc + 21) d21 rfl ?_
  refine go_i2l (y := mLaw L xs) (pc := pc + 23) d23 ?_
  refine go_lcmp (y := mLaw L xs) (pc := pc + 24) d24 r hv (fun c hc he => ?_)
  exact go_if_eq (y := mLaw L xs) (pc := pc + 25) (tgt := pc + 30) d25 (by omega) (by omega) (fun _ => last) (fun g => absurd (he.mpr f2) g)
/-- behind the model's call: a boolean -/
theorem tlZ {k v b : Int} {off : Int} (d0 : decode cL_law pc = .ok (.istore 7, 2)) (d2 : decode cL_law (pc + 2) = .ok (.aload_n 2, 1)) (d3 : decode cL_law (pc + 3) = .ok (.invokevirtual 152, 3)) (d6 : decode cL_law (pc + 6) = .ok (.iload 6, 2)) (d8 : decode cL_law (pc + 8) = .ok (.if_icmp .eq 5, 3))
    (d13 : decode cL_law (pc + 13) = .ok (.iload 6, 2)) (d15 : decode cL_law (pc + 15) = .ok (.ifCond .ne 22, 3)) (d18 : decode cL_law (pc + 18) = .ok (.aload_n 3, 1)) (d19 : decode cL_law (pc + 19) = .ok (.iconst 0, 1)) (d20 : decode cL_law (pc + 20) = .ok (.laload, 1)) (d21 : decode cL_law (pc + 21) = .ok (.iload 7, 2)) (d23 : decode cL_law (pc + 23) = .ok (.ifCond .eq 7, 3)) (d26 : decode cL_law (pc + 26) = .ok (.lconst 1, 1)) (d27 : decode cL_law (pc + 27) = .ok (.goto 4, 3)) (d30 : decode cL_law (pc + 30) = .ok (.lconst 0, 1)) (d31 : decode cL_law (pc + 31) = .ok (.lcmp, 1)) (d32 : decode cL_law (pc + 32) = .ok (.ifCond .eq 5, 3)) (d37 : decode cL_law (pc + 37) = .ok (.goto off, 3)) (ho : ((pc + 37 : Nat) : Int) + off = ((2940 : Nat) : Int))
    (hk : 0 ≤ k ∧ k ≤ 3) (hv : k = 0 → v = 0 ∨ v = 1) (e7 : μ 276 7 = k) (hI : INV μ) (e0 : k = 0 → iI b = iI v ∧ μ 289 0 = v) (K : ∀ μ', INV μ' → go 291 20 kc ks (mLaw L xs) Q X 2940 (lLaw i) [] μ') :
    go 291 20 kc ks (mLaw L xs) Q X pc [.ref 6000, .ref 0, .ref 276, .ref 289, .ref 290, .int (iI (i : Nat)), .int (iI k), w7, .null] [.int (iI b)] μ := by
  refine go_istore (y := mLaw L xs) (pc := pc) d0 (by show 7 < 9; decide) ?_
  refine go_aload_n (y := mLaw L xs) (pc := pc + 2) d2 rfl rfl ?_
  refine go_callV0 (y := mLaw L xs) (pc := pc + 3) (y' := mX11_thrown) (z' := 289) (d' := 0) (kc' := 0) (ks' := 0) (kc2 := kc) (ks2 := ks) d3 ml_L_152 ok_X11_thrown (show shp 276 = _ from rfl) ⟨_, _, rfl⟩ (by decide) trivial ⟨by decide, by decide, by decide, by omega, by omega⟩ ?_ rfl (m_thrown ?_)
  · simp
  rw [e7]
  refine go_iload (y := mLaw L xs) (pc := pc + 6) d6 rfl ?_
  refine go_icmp_eq (y := mLaw L xs) (pc := pc + 8) (tgt := pc + 13) d8 (by omega) (by omega) (by omega) (fun _ => ?_) (fun g => absurd rfl g)
  refine go_iload (y := mLaw L xs) (pc := pc + 13) d13 rfl ?_
  have last : go 291 20 kc ks (mLaw L xs) Q X (pc + 37) [.ref 6000, .ref 0, .ref 276, .ref 289, .ref 290, .int (iI (i : Nat)), .int (iI k), .int (iI b), .null] [] μ := by
    refine go_goto (y := mLaw L xs) (pc := pc + 37) (tgt := 2940) d37 ho ?_
    exact go_fgt 6 (go_fgt 7 (K μ hI))
  refine go_if_ne (y := mLaw L xs) (pc := pc + 15) (tgt := pc + 37) d15 (by omega) (by omega) (fun _ => last) (fun g => ?_)
  obtain ⟨f1, f2⟩ := e0 g
  have hv := hv g
  rw [f1] at last ⊢
  refine go_aload_n (y := mLaw L xs) (pc := pc + 18) d18 rfl rfl ?_
  refine go_iconst (y := mLaw L xs) (pc := pc + 19) d19 ?_
  refine go_laload (y := mLaw L xs) (pc := pc + 20) d20 (by decide) (fun r => ?_)
  refine go_iload (y := mLaw L xs) (pc := pc + 21) d21 rfl ?_
  refine go_if_eq (y := mLaw L xs) (pc := pc + 23) (tgt := pc + 30) d23 (by omega) (by omega) (fun g0 => ?_) (fun g1 => ?_)
  · refine go_lconst0 (y := mLaw L xs) (pc := pc + 30) d30 ?_
    refine go_lcmp (y := mLaw L xs) (pc := pc + 31) d31 r rng0 (fun c hc he => ?_)
    exact go_if_eq (y := mLaw L xs) (pc := pc + 32) (tgt := pc + 37) d32 (by omega) (by omega) (fun _ => last) (fun g => absurd (he.mpr (f2.trans g0)) g)
  · refine go_lconst1 (y := mLaw L xs) (pc := pc + 26) d26 ?_
    refine go_goto (y := mLaw L xs) (pc := pc + 27) (tgt := pc + 31) d27 (by omega) ?_
    refine go_lcmp (y := mLaw L xs) (pc := pc + 31) d31 r (by omega) (fun c hc he => ?_)
    exact go_if_eq (y := mLaw L xs) (pc := pc + 32) (tgt := pc + 37) d32 (by omega) (by omega) (fun _ => last) (fun g => absurd (he.mpr (f2.trans (by omega))) g)
end Tails
/-! the double in a local -/
section GoX
variable {y : MI} {z d kc ks : Nat} {Q : Option Value → Mem → Prop} {X : String → Mem → Prop} {pc : Nat} {ls st : List Value} {μ : Mem}
/-- go, where a double lies in the locals from 7 on -/
def goD (b : UInt64) (z d kc ks : Nat) (y : MI) (Q : Option Value → Mem → Prop) (X : String → Mem → Prop) (pc : Nat) (ls st : List Value) (μ : Mem) : Prop :=
  ∀ (p : Program) (l : Launch) (e : Env) (R : Room) (s : State) (m : MethodId) (args : Array Value) (below : List Frame) (meth : Method) (c : Code) (D : va_G) (cy : Nat → ClassId) (X0 mc ms n : Nat) (ad : Nat → Nat),
    cx z d y p l R s m args meth c D cy X0 mc ms n ad → ∀ (H : Heap) (locs : List Loc) (cells slots : Nat) (lsA : Array Slot) (dv : UInt64),
    wd D cy n ad dv μ X0 H → va_S (fun q : Nat => X0 ≤ q) s.heap H locs → lh ad lsA y.2.2.1 ls → lsA[7]? = some (.val (.double b)) → cells + kc ≤ mc → slots + ks ≤ ms →
    W p l e R s m args below meth c H locs cells slots (vx_MQ below (gQ D cy X0 n ad Q) (gX D cy X0 n ad X) args s mc ms (fun q : Nat => X0 ≤ q)) (F0 m pc lsA (st.map (av_l ad)))
variable {b : UInt64}
theorem gD_go (K : go z d kc ks y Q X pc ls st μ) : goD b z d kc ks y Q X pc ls st μ := by
  intro p l e R s m args below meth c D cy X0 mc ms nn ad hc H locs cells slots lsA dv hw hS hl h7 h1 h2
  exact go_use K hc hw hS hl h1 h2
theorem go_dstore7 (hd : decode y.2.1 pc = .ok (.dstore 7, 2)) (hn : 8 < y.2.2.1) (K : goD b z d kc ks y Q X (pc + 2) ((ls.set 7 .null).set 8 .null) st μ) : go z d kc ks y Q X pc ls (.double b :: st) μ := by
  intro p l e R s m args below meth c D cy X0 mc ms nn ad hc H locs cells slots lsA dv hw hS hl h1 h2
  refine lv_dstore hc.1 hc.2.1 hd (lh_has hl) hn rfl (fun lsB hB => ?_)
  refine K p l e R s m args below meth c D cy X0 mc ms nn ad hc H locs cells slots lsB dv hw hS ?_ (hB.2.2 _ List.mem_cons_self) h1 h2
  refine ⟨hB.1, hB.2.1, fun w hw => ?_, by rw [List.length_set, List.length_set]; exact hl.2.2.2.1, fun j w hj hn2 => ?_⟩
  · rcases List.mem_or_eq_of_mem_set hw with h9 | h9
    · rcases List.mem_or_eq_of_mem_set h9 with h8 | h8
      · exact hl.2.2.1 w h8
      · rw [h8]; rfl
    · rw [h9]; rfl
  · have hlen : j < ls.length := by
      have := (List.getElem?_eq_some_iff.mp hj).1
      rwa [List.length_set, List.length_set] at this
    by_cases e8 : j = 8
    · subst e8
      rw [List.getElem?_set_self (by rw [List.length_set]; exact hlen)] at hj
      cases hj
      exact absurd rfl hn2
    · rw [List.getElem?_set_ne (Ne.symm e8)] at hj
      by_cases e7 : j = 7
      · subst e7
        rw [List.getElem?_set_self hlen] at hj
        cases hj
        exact absurd rfl hn2
      · rw [List.getElem?_set_ne (Ne.symm e7)] at hj
        have hm := lh_mem (ad := ad) hj hn2
        have hc1 : (av_l ad w).category = 1 := by rw [av_cat]; exact hl.2.2.1 w (List.mem_of_getElem? hj)
        refine hB.2.2 (j, av_l ad w) (List.mem_cons_of_mem _ (List.mem_filter.mpr ⟨hm, ?_⟩))
        simp [e7, e8, hc1]
theorem gD_aload_n {k : Fin 4} {i a : Nat} (hd : decode y.2.1 pc = .ok (.aload_n k, 1)) (hi : (k : Nat) = i) (hv : ls[i]? = some (.ref a)) (K : goD b z d kc ks y Q X (pc + 1) ls (.ref a :: st) μ) : goD b z d kc ks y Q X pc ls st μ := by
  intro p l e R s m args below meth c D cy X0 mc ms nn ad hc H locs cells slots lsA dv hw hS hl h7 h1 h2
  exact lv_aload_n hc.1 hc.2.1 hd hi (lh_at hl hv (by intro h; cases h)) (K p l e R s m args below meth c D cy X0 mc ms nn ad hc H locs cells slots lsA dv hw hS hl h7 h1 h2)
theorem gD_aload {i a : Nat} (hd : decode y.2.1 pc = .ok (.aload i, 2)) (hv : ls[i]? = some (.ref a)) (K : goD b z d kc ks y Q X (pc + 2) ls (.ref a :: st) μ) : goD b z d kc ks y Q X pc ls st μ := by
  intro p l e R s m args below meth c D cy X0 mc ms nn ad hc H locs cells slots lsA dv hw hS hl h7 h1 h2
  exact lv_aload hc.1 hc.2.1 hd (lh_at hl hv (by intro h; cases h)) (K p l e R s m args below meth c D cy X0 mc ms nn ad hc H locs cells slots lsA dv hw hS hl h7 h1 h2)
theorem gD_iload {i : Nat} {v : Int} (hd : decode y.2.1 pc = .ok (.iload i, 2)) (hv : ls[i]? = some (.int (iI v))) (K : goD b z d kc ks y Q X (pc + 2) ls (.int (iI v) :: st) μ) : goD b z d kc ks y Q X pc ls st μ := by
  intro p l e R s m args below meth c D cy X0 mc ms nn ad hc H locs cells slots lsA dv hw hS hl h7 h1 h2
  exact lv_iload hc.1 hc.2.1 hd (lh_at hl hv (by intro h; cases h)) (K p l e R s m args below meth c D cy X0 mc ms nn ad hc H locs cells slots lsA dv hw hS hl h7 h1 h2)
theorem gD_iconst {n : Int} (hd : decode y.2.1 pc = .ok (.iconst n, 1)) (K : goD b z d kc ks y Q X (pc + 1) ls (.int (iI n) :: st) μ) : goD b z d kc ks y Q X pc ls st μ := by
  intro p l e R s m args below meth c D cy X0 mc ms nn ad hc H locs cells slots lsA dv hw hS hl h7 h1 h2
  exact lv_iconst hc.1 hc.2.1 hd rfl (K p l e R s m args below meth c D cy X0 mc ms nn ad hc H locs cells slots lsA dv hw hS hl h7 h1 h2)
theorem gD_icmp_eq {a a' : Int} {off : Int} {tgt : Nat} (hd : decode y.2.1 pc = .ok (.if_icmp .eq off, 3)) (ht : (pc : Int) + off = (tgt : Int)) (ha : rng a) (hb : rng a') (kt : a = a' → goD b z d kc ks y Q X tgt ls st μ) (kf : a ≠ a' → goD b z d kc ks y Q X (pc + 3) ls st μ) : goD b z d kc ks y Q X pc ls (.int (iI a') :: .int (iI a) :: st) μ := by
  intro p l e R s m args below meth c D cy X0 mc ms nn ad hc H locs cells slots lsA dv hw hS hl h7 h1 h2
  exact lv_icmp_eq hc.1 hc.2.1 hd ht (fun h => kt ((iI_eq ha hb).mp h) p l e R s m args below meth c D cy X0 mc ms nn ad hc H locs cells slots lsA dv hw hS hl h7 h1 h2) (fun h => kf (fun q => h ((iI_eq ha hb).mpr q)) p l e R s m args below meth c D cy X0 mc ms nn ad hc H locs cells slots lsA dv hw hS hl h7 h1 h2)
theorem gD_if_ne {a : Int} {off : Int} {tgt : Nat} (hd : decode y.2.1 pc = .ok (.ifCond .ne off, 3)) (ht : (pc : Int) + off = (tgt : Int)) (ha : rng a) (kt : a ≠ 0 → goD b z d kc ks y Q X tgt ls st μ) (kf : a = 0 → goD b z d kc ks y Q X (pc + 3) ls st μ) : goD b z d kc ks y Q X pc ls (.int (iI a) :: st) μ := by
  intro p l e R s m args below meth c D cy X0 mc ms nn ad hc H locs cells slots lsA dv hw hS hl h7 h1 h2
  have hb : rng 0 := rng0
  exact lv_if_ne hc.1 hc.2.1 hd ht (fun h => kt (fun q => h ((iI_eq ha hb).mpr q)) p l e R s m args below meth c D cy X0 mc ms nn ad hc H locs cells slots lsA dv hw hS hl h7 h1 h2) (fun h => kf ((iI_eq ha hb).mp h) p l e R s m args below meth c D cy X0 mc ms nn ad hc H locs cells slots lsA dv hw hS hl h7 h1 h2)
theorem gD_daload (hd : decode y.2.1 pc = .ok (.daload, 1)) (hz : 291 ≤ z) (K : goD b z d kc ks y Q X (pc + 1) ls (.double (dbl (μ 290 0) (μ 290 1)) :: st) μ) : goD b z d kc ks y Q X pc ls (.int (iI 0) :: .ref 290 :: st) μ := by
  intro p l e R s m args below meth c D cy X0 mc ms nn ad hc H locs cells slots lsA dv hw hS hl h7 h1 h2
  obtain ⟨c1, c2, c3, c4, c5, c6, c7, c8, c9, c10, c11⟩ := id hc
  obtain ⟨hR, E, hE, hP, hD⟩ := id hw
  have he : (wsl cy dv ad μ nn ++ E)[290]? = some (ad 290, .inl (cy 5, 1, .inr (.inr (.inr (.inl (fun _ => dbl (μ 290 0) (μ 290 1))))))) := by rw [wsl_get (by omega), ent_6 shp_290]
  exact va_dald c1 c2 c8.1 hP 290 5 he rfl (iI_in (k := 0) (by decide) (by decide)) hd (K p l e R s m args below meth c D cy X0 mc ms nn ad hc H locs cells slots lsA dv hw hS hl h7 h1 h2)
theorem gD_dload7 (hd : decode y.2.1 pc = .ok (.dload 7, 2)) (K : goD b z d kc ks y Q X (pc + 2) ls (.double b :: st) μ) : goD b z d kc ks y Q X pc ls st μ := by
  intro p l e R s m args below meth c D cy X0 mc ms nn ad hc H locs cells slots lsA dv hw hS hl h7 h1 h2
  exact lv_dload hc.1 hc.2.1 hd h7 (K p l e R s m args below meth c D cy X0 mc ms nn ad hc H locs cells slots lsA dv hw hS hl h7 h1 h2)
theorem gD_dcmp {v v' : UInt64} {op : CmpOp} (hd : decode y.2.1 pc = .ok (.dcmp op, 1)) (he : FP.dcmp v v' = some .eq) (K : goD b z d kc ks y Q X (pc + 1) ls (.int (iI 0) :: st) μ) : goD b z d kc ks y Q X pc ls (.double v' :: .double v :: st) μ := by
  intro p l e R s m args below meth c D cy X0 mc ms nn ad hc H locs cells slots lsA dv hw hS hl h7 h1 h2
  refine lv_dcmp hc.1 hc.2.1 hd ?_
  rw [he]
  exact K p l e R s m args below meth c D cy X0 mc ms nn ad hc H locs cells slots lsA dv hw hS hl h7 h1 h2
theorem go_dcmp {v v' : UInt64} {op : CmpOp} (hd : decode y.2.1 pc = .ok (.dcmp op, 1)) (he : FP.dcmp v v' = some .eq) (K : go z d kc ks y Q X (pc + 1) ls (.int (iI 0) :: st) μ) : go z d kc ks y Q X pc ls (.double v' :: .double v :: st) μ := by
  intro p l e R s m args below meth c D cy X0 mc ms nn ad hc H locs cells slots lsA dv hw hS hl h1 h2
  refine lv_dcmp hc.1 hc.2.1 hd ?_
  rw [he]
  exact go_use K hc hw hS hl h1 h2
theorem go_fstore {i : Nat} {v : UInt32} (hd : decode y.2.1 pc = .ok (.fstore i, 2)) (hn : i < y.2.2.1) (K : go z d kc ks y Q X (pc + 2) (ls.set i (.float v)) st μ) : go z d kc ks y Q X pc ls (.float v :: st) μ := by
  intro p l e R s m args below meth c D cy X0 mc ms nn ad hc H locs cells slots lsA dv hw hS hl h1 h2
  exact lv_fstore hc.1 hc.2.1 hd (lh_has hl) hn rfl (fun lsB hB => go_use K hc hw hS (lh_set (v := .float v) hl rfl hB) h1 h2)
theorem go_fload {i : Nat} {v : UInt32} (hd : decode y.2.1 pc = .ok (.fload i, 2)) (hv : ls[i]? = some (.float v)) (K : go z d kc ks y Q X (pc + 2) ls (.float v :: st) μ) : go z d kc ks y Q X pc ls st μ := by
  intro p l e R s m args below meth c D cy X0 mc ms nn ad hc H locs cells slots lsA dv hw hS hl h1 h2
  exact lv_fload hc.1 hc.2.1 hd (lh_at hl hv (by intro h; cases h)) (go_use K hc hw hS hl h1 h2)
/-- a call of the model with no argument, the double lying in the locals -/
theorem gD_thrown {L : Nat} {xs : Nat → Int32} {rest : List Value} {pc : Nat} {ls : List Value} (hd : decode cL_law pc = .ok (.invokevirtual 152, 3)) (hW : (rest.map fun v => v.category).sum ≤ 8)
    (K : goD b 291 20 kc ks (mLaw L xs) Q X (pc + 3) ls (.int (iI (μ 276 7)) :: rest) μ) : goD b 291 20 kc ks (mLaw L xs) Q X pc ls (.ref 276 :: rest) μ := by
  intro p l e R s m args below meth c D cy X0 mc ms nn ad hc H locs cells slots lsA dv hw hS hl h7 h1 h2
  obtain ⟨c1, c2, c3, c4, c5, c6, c7, c8, c9, c10, c11, c12, c13, c14, c15, c16, c17, c18, c19⟩ := id hc
  obtain ⟨⟨k1, k2, k3, k4, k5, k6, k9⟩, k7, k8⟩ := ok_X11_thrown
  have KM : mt 289 0 0 0 mX11_thrown [.ref 276] (fun r μ' => r = some (.int (iI (μ 276 7))) ∧ μ' = μ) X μ := m_thrown ⟨rfl, rfl⟩
  have hM := mt_vx (l := l) (D := D) (cy := cy) (X0 := X0) (n := nn) (ad := ad) (dv := dv) KM k3 k6 k9 (by decide) (by intro v hv; rw [List.mem_singleton.mp hv]; rfl) c18 (by omega) c10
  have hcw : CallW R s args (mLaw L xs).1.cls mX11_thrown.1.cls 152 mX11_thrown.1 mX11_thrown.2.1 mX11_thrown.2.2.1 mX11_thrown.2.2.2.1 (wsa mX11_thrown) (rmd 0 0 0) 0 0 0 :=
    ⟨callB_of 0 c6 (good_wsa k1) rfl rfl rfl (c6 _ k2) (c6 _ ml_L_152) k4 ⟨by show 0 + 1 ≤ _; omega, by show 8 + (1 + 11) + 40 * 0 ≤ _; omega⟩, c6 _ k7, c6 _ k8⟩
  obtain ⟨hR, E, hE, hP, hD⟩ := id hw
  have he : (wsl cy dv ad μ nn ++ E)[276]? = some (ad 276, .inr (15, flv ad μ 276 0 (hi_shp 1).2.2)) := by rw [wsl_get (by omega), ent_0 (show shp 276 = _ from rfl)]; rfl
  have hp : PreV s H mX11_thrown.1.cls (ad 276) (gP D cy X0 nn ad dv μ [.ref 276]) [] :=
    ⟨gP_blind, va_recv c8.1 hP rfl he, fun U hU hWU => ⟨rfl, by rw [hU]; exact hw, by rw [hU]; exact kx_moved hWU hS c8, by rw [hU]; exact Nat.le_trans c15 hS.1⟩⟩
  have hr := vx_runV (As := []) (b := ad 276) (nL := 9) (g := F0 m pc lsA (.ref (ad 276) :: rest.map (av_l ad))) (rest := rest.map (av_l ad)) (locs := locs) (cells := cells) (slots := slots) (below := below) (meth := meth) (e := e) ⟨c1, c2, c4, c5, c6⟩ hM hcw hp rfl rfl hl.1 rfl (lv_room (by rw [av_sum]; exact hW)) hd ⟨by omega, by omega⟩
  intro T hT X9
  have keep : ∀ (st₀ t T' : State) (L : List Loc), st₀.heap = H → T'.heap = t.heap → (∀ q ∈ L, X0 ≤ q.base) → va_F (fun q : Nat => X0 ≤ q) st₀ t → va_S (fun q : Nat => X0 ≤ q) s.heap T'.heap (locs ++ L) := by
    intro st₀ t T' L h0 e1 hL hF
    obtain ⟨hz, hk⟩ := hF
    rw [h0] at hz hk
    exact ⟨Nat.le_trans hS.1 (by rw [e1]; exact hz), fun q h1 h2 => by rw [e1, hk q (Nat.lt_of_lt_of_le h1 hS.1) h2]; exact hS.2.1 q h1 h2, fun q hq => by
      rcases List.mem_append.mp hq with h | h
      · exact hS.2.2 q h
      · exact hL q h⟩
  rcases hr T hT X9 with hr | hr
  · obtain ⟨v, st₀, t, T', L9, h0, X', hL, e1, e2, ⟨⟨r, μ', dv', hv, hp, hb⟩, hF⟩, st9⟩ := hr
    obtain ⟨hp1, rfl⟩ := hp
    have hv' : v = r.map (av_l ad) := by injection hv
    subst hv' hp1
    have hw' : wd D cy nn ad dv' μ' X0 T'.heap := by rw [e1]; exact hb
    obtain ⟨t2, a1, b1⟩ := K p l e R s m args below meth c D cy X0 mc ms nn ad hc T'.heap (locs ++ L9) cells slots lsA dv' hw' (keep _ _ _ _ h0 e1 hL hF) hl h7 h1 h2 T' rfl X'
    exact ⟨t2, st9 t2 a1, b1⟩
  · obtain ⟨q, st₀, t, T', L9, E9, ce, h0, X', hL, e1, e2, ⟨⟨μ', dv', hx, hb⟩, hF⟩, hce, hvm, hcl, st9⟩ := hr
    have hw' : wd D cy nn ad dv' μ' X0 T'.heap := by rw [e1]; exact hb
    obtain ⟨t2, a1, b1⟩ := go_thru (kc' := 0) (ks' := 0) (kc2 := kc) (ks2 := ks) (lsA := lsA) (rest := rest) (pc := pc) (Q := Q) (below := below) (p := p) (e := e) hc rfl (by omega) (by omega) E9 μ' dv' T'.heap (locs ++ L9) q ce hx hw' (keep _ _ _ _ h0 e1 hL hF) (by rw [e1]; exact hce) hvm hcl T' rfl X'
    exact ⟨t2, st9.trans a1, b1⟩
end GoX
