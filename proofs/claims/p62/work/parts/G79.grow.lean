/-! THE OUTPUT GROWS: Arrays.copyOf, and its use by ensureCapacityInternal -/
theorem ml_J7_304 : Cond.methodLink RJ7 304 Lib.Math.min.name ∈ aw := tb_in 1496 (by decide +kernel) (by decide +kernel)
theorem ml_J7_150 : Cond.methodLink RJ7 150 arraycopyName ∈ aw := tb_in 1497 (by decide +kernel) (by decide +kernel)
theorem mw_byte : Cond.arrayClass .byte ∈ aw := tb_in 56 (by decide +kernel) (by decide +kernel)
theorem fit_by {v : Int} (h : -128 ≤ v ∧ v < 128) : fits .byte (.int (iI v)) = true := by
  have e := nar_by h
  rw [← e, vp_nar_byte]
  exact pk_fb _
theorem P_drop {D : va_G} {cl : List vw_C} {A : va_W} {x y w : Nat × va_E} {H : Heap} (h : va_P D cl (A ++ [x, y, w]) H) : va_P D cl (A ++ [x, w]) H := by
  intro k q hk
  by_cases g : k < A.length
  · rw [List.getElem?_append_left g] at hk
    exact h k q (by rw [List.getElem?_append_left g]; exact hk)
  · rw [List.getElem?_append_right (by omega)] at hk
    have e : k - A.length = 0 ∨ k - A.length = 1 ∨ 2 ≤ k - A.length := by omega
    rcases e with e | e | e
    · rw [e] at hk
      exact h k q (by rw [List.getElem?_append_right (by omega), e]; exact hk)
    · rw [e] at hk
      exact h (k + 1) q (by rw [List.getElem?_append_right (by omega), show k + 1 - A.length = 2 by omega]; exact hk)
    · rw [List.getElem?_eq_none (by simpa using e)] at hk
      cases hk
theorem D_drop {B : Nat → Prop} {A : va_W} {x y w : Nat × va_E} (h : va_D B (A ++ [x, y, w])) : va_D B (A ++ [x, w]) := by
  have key : ∀ (k : Nat) (q : Nat × va_E), (A ++ [x, w])[k]? = some q → (A ++ [x, y, w])[if k ≤ A.length then k else k + 1]? = some q := by
    intro k q hk
    by_cases g : k < A.length
    · rw [List.getElem?_append_left g] at hk
      rw [if_pos (by omega), List.getElem?_append_left g]
      exact hk
    · rw [List.getElem?_append_right (by omega)] at hk
      have e : k - A.length = 0 ∨ k - A.length = 1 ∨ 2 ≤ k - A.length := by omega
      rcases e with e | e | e
      · rw [e] at hk
        rw [if_pos (by omega), List.getElem?_append_right (by omega), e]
        exact hk
      · rw [e] at hk
        rw [if_neg (by omega), List.getElem?_append_right (by omega), show k + 1 - A.length = 2 by omega]
        exact hk
      · rw [List.getElem?_eq_none (by simpa using e)] at hk
        cases hk
  refine ⟨fun i j p q hi hj e => ?_, fun k q hk => h.2 _ q (key k q hk)⟩
  have h1 := h.1 _ _ p q (key i p hi) (key j q hj) e
  split at h1 <;> split at h1 <;> omega
/-- the answer of copyOf -/
def cpAns (D : va_G) (cy : Nat → ClassId) (X0 : Nat → Prop) (n : Nat) (ad : Nat → Nat) (μ : Mem) (q : Int) : Array Value → State → Outcome → State → Prop := fun _ st oc t =>
  (∃ (sb : Nat) (dv : UInt64) (ml : Int32), oc = .returned (some (.ref sb)) ∧ va_P D vwCl (wsl cy dv ad μ n ++ [e50 ad (ad 5001) ml μ, e51 cy (ad 5001) μ, (sb, .inl (cy 2, q.toNat, .inl (va_cpy (fun j => iI (μ 5001 j)) (fun _ => 0) 0 0 (μ 5002 0).toNat)))]) t.heap ∧
    va_D X0 (wsl cy dv ad μ n ++ [e50 ad (ad 5001) ml μ, e51 cy (ad 5001) μ, (sb, .inl (cy 2, q.toNat, .inl (va_cpy (fun j => iI (μ 5001 j)) (fun _ => 0) 0 0 (μ 5002 0).toNat)))])) ∧ va_F X0 st t
theorem cp_W {p : Program} {l : Launch} {e : Env} {R : Room} {s : State} {m : MethodId} {args : Array Value} {below : List Frame} {meth : Method} {c : Code} {D : va_G} {cy : Nat → ClassId} {X0 : Nat → Prop} {mc ms n : Nat} {ad : Nat → Nat} {μ : Mem} {q : Int} {XC : String → State → State → Prop}
    (hc : cx 276 1 mJ7_copyOf_9075b p l R s m args meth c D cy X0 mc ms n ad) (hq : q = 46 ∨ q = 94 ∨ q = 190 ∨ q = 382) (hcq : μ 5002 0 < q) (hm : μ 5003 0 ≠ 0) {H : Heap} {locs : List Loc} {cells slots : Nat} {lsA : Array Slot} {dv : UInt64} (hw : wd D cy n ad dv μ X0 H) (hS : va_S X0 s.heap H locs)
    (hl : lh ad lsA 3 [.ref 5001, .int (iI q), .null]) (h1 : cells + 1 ≤ mc) (h2 : slots + q.toNat ≤ ms) : W p l e R s m args below meth c H locs cells slots (vx_MQ below (cpAns D cy X0 n ad μ q) XC args s mc ms X0) (F0 m 0 lsA []) := by
  obtain ⟨c1, c2, c3, c4, c5, c6, c7, c8, c9, c10, c11, c12, c13, c14, c15, c16⟩ := id hc
  obtain ⟨hR, sa, ml, hP, hD, a1, a2, a3, a4⟩ := wd_sb hw (by omega)
  have esa := a1 hm
  subst esa
  have hl0 : lv_has lsA 3 [(0, .ref (ad 5001)), (1, .int (iI q))] := lh_has hl
  have rq : rng q := by unfold rng; omega
  have rc : rng (μ 5002 0) := hR 5002 0
  have ezn : ¬ iI q < 0 := fun w => by
    have := (iI_lt rq rng0).mp w
    omega
  refine lv_iload_n c1 c2 dJ7_copyOf_9075b_0 rfl (lv_at hl0 1 rfl) ?_
  refine lv_aload_n c1 c2 dJ7_copyOf_9075b_1 rfl (lv_at hl0 0 rfl) ?_
  refine va_alen c1 c2 c8.1 hP (n + 1) 2 (wsl_nk 1) rfl (v := iI (μ 5002 0)) (by show Int32.ofNat (μ 5002 0).toNat = _; rw [iI_of (by omega)]; congr 1; omega) dJ7_copyOf_9075b_2 ?_
  refine lv_icmp_ne (tgt := 14) c1 c2 dJ7_copyOf_9075b_3 (by decide) (fun _ => ?_) (fun w => ?_)
  · refine lv_iload_n c1 c2 dJ7_copyOf_9075b_14 rfl (lv_at hl0 1 rfl) ?_
    refine va_newa (atype := .byte) c1 c2 (c6 _ mw_byte) rfl c8.1 hP hD hS (fun x hx => c15 x hx) (N' := q.toNat) (a0 := (q.toNat, .inl (fun _ => 0))) (fun cA => rfl) ezn ?_ ?_ (by omega) (by omega) dJ7_copyOf_9075b_15 (fun sb cA H1 hK1 hP1 hD1 hS1 => ?_)
    · rcases hq with rfl | rfl | rfl | rfl <;> decide
    · rcases hq with rfl | rfl | rfl | rfl <;> decide
    have eA : cA = cy 2 := Option.some.inj ((hK1.2 5 (cA, .byte) rfl).2.symm.trans (hK1.2 2 (cy 2, .byte) rfl).2)
    subst eA
    rw [List.append_assoc] at hP1 hD1
    refine lv_astore_n c1 c2 dJ7_copyOf_9075b_17 rfl hl0 (by decide) (lv' := [(2, .ref sb), (0, .ref (ad 5001)), (1, .int (iI q))]) rfl (fun lsB hB => ?_)
    refine lv_aload_n c1 c2 dJ7_copyOf_9075b_18 rfl (lv_at hB 1 rfl) ?_
    refine lv_iconst (v := iI 0) c1 c2 dJ7_copyOf_9075b_19 rfl ?_
    refine lv_aload_n c1 c2 dJ7_copyOf_9075b_20 rfl (lv_at hB 0 rfl) ?_
    refine lv_iconst (v := iI 0) c1 c2 dJ7_copyOf_9075b_21 rfl ?_
    refine lv_aload_n c1 c2 dJ7_copyOf_9075b_22 rfl (lv_at hB 1 rfl) ?_
    refine va_alen c1 c2 hK1 hP1 (n + 1) 2 (wsl_nk 1) rfl (v := iI (μ 5002 0)) (by show Int32.ofNat (μ 5002 0).toNat = _; rw [iI_of (by omega)]; congr 1; omega) dJ7_copyOf_9075b_23 ?_
    refine lv_iload_n c1 c2 dJ7_copyOf_9075b_24 rfl (lv_at hB 2 rfl) ?_
    refine va_mmin c1 c2 (c4.trans hB.1.symm) c5 (c6 _ ml_J7_304) (c6 _ mw_min_s) (c6 _ mw_math) (c6 _ mw_min_c) (by omega) (Nat.le_trans (Nat.le_of_ble_eq_true rfl) c12) (by omega) (by omega) dJ7_copyOf_9075b_25 ?_
    rw [if_neg (fun w => by have := (iI_lt rq rc).mp w; omega)]
    have z0 : ¬ (iI 0 : Int32) < 0 := by decide
    have z1 : (iI 0 : Int32).toNatClampNeg = 0 := by decide
    have zc : (iI (μ 5002 0)).toNatClampNeg = (μ 5002 0).toNat := by
      rcases a3 with e | e | e | e | e | e <;> rw [e] <;> decide
    have zn : ¬ iI (μ 5002 0) < 0 := fun w => by
      have := (iI_lt rc rng0).mp w
      omega
    refine va_copyi (ty := .byte) c1 c2 (c4.trans hB.1.symm) c5 (c6 _ ml_J7_150) (c6 _ mw_cp_n) (c6 _ mw_cp_s) (c6 _ mw_sys) hK1 hP1 hD1 hS1 (n + 1) (n + 2) 2 2 (wsl_nk 1) (wsl_nk 2) rfl rfl rfl z0 z0 zn (by rw [z1, zc]; show 0 + (μ 5002 0).toNat ≤ (μ 5002 0).toNat; omega) (by rw [z1, zc]; omega) (fun i _ => fit_by (a4 _)) (by omega) (Nat.le_trans (Nat.le_of_ble_eq_true rfl) c12) dJ7_copyOf_9075b_28 (fun H2 locs2 hP2 hD2 hS2 => ?_)
    rw [z1, zc, wsl_nset 2] at hP2 hD2
    refine lv_aload_n c1 c2 dJ7_copyOf_9075b_31 rfl (lv_at hB 0 rfl) ?_
    refine W.widen (k := mc) (n := ms) (by omega) (by omega) (vx_ret ?_)
    exact W.aret (v := .ref sb) c1 c2 c3 (Or.inr ⟨_, rfl⟩) (Or.inr ⟨_, rfl⟩) (fun t ht hW => ⟨⟨sb, dv, ml, rfl, by rw [ht]; exact hP2, hD2⟩, hS2.F ht⟩) hS2.2.2 dJ7_copyOf_9075b_32 c7
  · have e9 := (iI_eq rq rc).mp w
    omega
theorem cp_met {l : Launch} (hst : l.stackTraces = false) {D : va_G} {cy : Nat → ClassId} {X0 : Nat → Prop} {n : Nat} {ad : Nat → Nat} {dv : UInt64} {μ : Mem} {q : Int} (hz : 276 ≤ n) (hn : n ≤ 400) (hq : q = 46 ∨ q = 94 ∨ q = 190 ∨ q = 382) (hcq : μ 5002 0 < q) (hm : μ 5003 0 ≠ 0) :
    vx_Met l yJ7_copyOf_9075b (wsa mJ7_copyOf_9075b) (rmd 1 1 q.toNat) (gP D cy X0 n ad dv μ [.ref 5001, .int (iI q)]) (cpAns D cy X0 n ad μ q) (fun _ _ _ => False) 1 q.toNat X0 := by
  refine vx_ofW (cc := mJ7_copyOf_9075b.2.1) (maxL := mJ7_copyOf_9075b.2.2.1) (ret := mJ7_copyOf_9075b.2.2.2.1) ok_J7_copyOf_9075b.1.2.2.1 rfl ?_
  intro p e s m args below meth c s₁ B hml htb hv
  obtain ⟨rfl, hw, hk, hX⟩ := hv
  have ht : c.exceptionTable.toList = tableOf mJ7_copyOf_9075b.2.2.2.2.1 := by
    cases hx : c.exceptionTable.toList with
    | nil => rfl
    | cons a r => exact (htb a (by rw [hx]; exact List.mem_cons_self)).elim
  rw [lg_entry_eq]
  exact cp_W (l := l) (R := (headSpec (wsa mJ7_copyOf_9075b) (rmd 1 1 q.toNat)).room) ⟨B.exec, B.bytes, B.returns, hml, findClass_of_methodNamed B.named, fun w hw => atoms_spec (ws := wsa mJ7_copyOf_9075b) B.pre w (List.mem_cons_of_mem _ hw), B.notSynchronized, hk, hz, hn, Nat.le_refl _, Nat.le_refl _, Nat.le_refl _, Nat.le_refl _, hX, ht, (name_of_methodNamed B.named B.method).1, hst, fun L xs => ⟨fun e => (by cases e), fun e => (by cases e)⟩⟩
    hq hcq hm hw va_S.rf (lh_entry (y := mJ7_copyOf_9075b) (as := [.ref 5001, .int (iI q)]) (show (2 : Nat) ≤ 3 by decide) (by intro v hv; simp only [List.mem_cons, List.not_mem_nil, or_false] at hv; rcases hv with rfl | rfl <;> rfl)) (Nat.le_refl 1) (Nat.le_of_eq (Nat.zero_add _))
