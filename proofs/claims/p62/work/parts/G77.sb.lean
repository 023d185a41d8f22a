/-! THE OUTPUT: a StringBuilder and its bytes -/
def ad5 (ad : Nat → Nat) (sa : Nat) : Nat → Nat := fun k => if k = 5001 then sa else ad k
theorem ad5_n {ad : Nat → Nat} {sa k : Nat} (h : k ≠ 5001) : ad5 ad sa k = ad k := if_neg h
theorem ad5_s {ad : Nat → Nat} {sa : Nat} : ad5 ad sa 5001 = sa := if_pos rfl
def nob (l : List Value) : Prop := ∀ v ∈ l, v ≠ .ref 5001
theorem av_5 {ad : Nat → Nat} {sa : Nat} {v : Value} (h : v ≠ .ref 5001) : av_l (ad5 ad sa) v = av_l ad v := by
  cases v with
  | ref k =>
    show Value.ref (ad5 ad sa k) = .ref (ad k)
    rw [ad5_n (fun e => h (by rw [e]))]
  | _ => rfl
theorem map_5 {ad : Nat → Nat} {sa : Nat} {l : List Value} (h : nob l) : l.map (av_l (ad5 ad sa)) = l.map (av_l ad) := List.map_congr_left (fun v hv => av_5 (h v hv))
theorem flv_5 {ad : Nat → Nat} {sa : Nat} {μ : Mem} {k : Nat} : ∀ (fs : List (Option Nat)) (i : Nat), (∀ q, some q ∈ fs → q ≠ 5001) → flv (ad5 ad sa) μ k i fs = flv ad μ k i fs
  | [], _, _ => rfl
  | none :: r, i, h => by
    simp only [flv]
    rw [flv_5 r (i + 1) (fun q hq => h q (List.mem_cons_of_mem _ hq))]
  | some q :: r, i, h => by
    simp only [flv]
    rw [flv_5 r (i + 1) (fun q hq => h q (List.mem_cons_of_mem _ hq)), ad5_n (h q List.mem_cons_self)]
theorem shp_5 : ∀ k < 400, ∀ q ∈ (shp k).2.2, q ≠ some 5001 := by decide +kernel
theorem ent_x5 {cy : Nat → ClassId} {dv : UInt64} {ad : Nat → Nat} {μ : Mem} {k sa : Nat} (h : k < 400) : ent cy dv (ad5 ad sa) μ k = ent cy dv ad μ k := by
  have h5 := shp_5 k h
  unfold ent
  split <;> rename_i e <;> rw [e] at h5
  · rw [flv_5 _ 0 (fun q hq e => h5 _ hq (by rw [e]))]
  all_goals first | rfl | skip
  · rename_i n fs
    refine congrArg (fun g => (Sum.inl (cy 3, n, Sum.inr (Sum.inr (Sum.inr (Sum.inr g)))) : va_E)) ?_
    funext j
    cases g : fs.getD j none with
    | none => rfl
    | some q =>
      have hm : some q ∈ fs := by
        unfold List.getD at g
        cases g2 : fs[j]? with
        | none => rw [g2] at g; cases g
        | some w =>
          rw [g2] at g
          have e2 : w = some q := g
          exact e2 ▸ List.mem_of_getElem? g2
      show some (ad5 ad sa q) = some (ad q)
      rw [ad5_n (fun e => h5 _ hm (by rw [e]))]
theorem wsl_5 {cy : Nat → ClassId} {dv : UInt64} {ad : Nat → Nat} {μ : Mem} {n sa : Nat} (h : n ≤ 400) : wsl cy dv (ad5 ad sa) μ n = wsl cy dv ad μ n := by
  unfold wsl
  apply List.map_congr_left
  intro k hk
  have hk := List.mem_range.mp hk
  rw [ad5_n (by omega), ent_x5 (by omega)]
theorem sc_n : sc_l.length < 100 := by decide
theorem kx_5 {D : va_G} {cy : Nat → ClassId} {X0 : Nat → Prop} {sa : Nat} {ad : Nat → Nat} {U : State} {H : Heap} (h : kx D cy X0 ad U H) : kx D cy X0 (ad5 ad sa) U H := by
  obtain ⟨h0, h1, h2, h3, h4, h5, h6, h7, h8, h9, h10⟩ := h
  refine ⟨h0, fun i q hi => ?_, h2, h3, h4, ⟨h5.1, ?_⟩, ?_, ?_, ?_, ?_, h10⟩
  · have hl := (List.getElem?_eq_some_iff.mp hi).1
    have hn := sc_n
    have g := h1 i q hi
    unfold sc_ok at g ⊢
    rw [ad5_n (by omega), ad5_n (by omega)]
    exact g
  · obtain ⟨v, g1, g2⟩ := h5.2
    exact ⟨v, by rw [ad5_n (by decide)]; exact g1, g2⟩
  · rw [ad5_n (by decide)]; exact h6
  · rw [ad5_n (by decide)]; exact h7
  · rw [ad5_n (by decide)]; exact h8
  · rw [ad5_n (by decide)]; exact h9
theorem cx_5 {z d : Nat} {y : MI} {p : Program} {l : Launch} {R : Room} {s : State} {m : MethodId} {args : Array Value} {meth : Method} {c : Code} {D : va_G} {cy : Nat → ClassId} {X0 : Nat → Prop} {mc ms n sa : Nat} {ad : Nat → Nat} (h : cx z d y p l R s m args meth c D cy X0 mc ms n ad) : cx z d y p l R s m args meth c D cy X0 mc ms n (ad5 ad sa) := by
  obtain ⟨c1, c2, c3, c4, c5, c6, c7, c8, c9, c10, c11, c12, c13, c14, c15, c16, c17, c18, c19⟩ := h
  refine ⟨c1, c2, c3, c4, c5, c6, c7, kx_5 c8, c9, c10, c11, c12, c13, c14, c15, c16, c17, c18, ?_⟩
  unfold scx
  rw [ad5_n (show (6000 : Nat) ≠ 5001 by decide), ad5_n (show (6100 : Nat) ≠ 5001 by decide), ad5_n (show (6101 : Nat) ≠ 5001 by decide)]
  exact c19
theorem lh_5 {ad : Nat → Nat} {sa : Nat} {lsA : Array Slot} {nL : Nat} {ls : List Value} (h : lh ad lsA nL ls) (hn : nob ls) : lh (ad5 ad sa) lsA nL ls := by
  obtain ⟨h1, h2, h3, h4, h5⟩ := h
  refine ⟨h1, h2, h3, h4, fun i v hv hne => ?_⟩
  rw [av_5 (hn v (List.mem_of_getElem? hv))]
  exact h5 i v hv hne
theorem wd_in {D : va_G} {cy : Nat → ClassId} {n : Nat} {X0 : Nat → Prop} {ad : Nat → Nat} {dv : UInt64} {μ : Mem} {H : Heap} (h : wd D cy n ad dv μ X0 H) (hz : 276 ≤ n) (hn : n ≤ 400) : ∃ sa, wd D cy n (ad5 ad sa) dv (wr μ 5003 0 1) X0 H := by
  obtain ⟨hR, E, hE, hP, hD⟩ := h
  rcases hE with ⟨g, -⟩ | ⟨-, sa, ml, e, a1, a2, a3, a4⟩
  · omega
  have ew : wsl cy dv (ad5 ad sa) (wr μ 5003 0 1) n = wsl cy dv ad μ n := by
    rw [wsl_5 hn]
    unfold wsl
    apply List.map_congr_left
    intro k hk
    have hk := List.mem_range.mp hk
    rw [ent_off (fun j => wr_na (by omega))]
  refine ⟨sa, wr_rng hR (by decide), E, Or.inr ⟨hz, sa, ml, ?_, fun _ => ad5_s.symm, ?_, ?_, fun j => ?_⟩, by rw [ew]; exact hP, by rw [ew]; exact hD⟩
  · rw [ad5_n (by decide), wr_na (by decide), wr_na (by decide)]
    have e1 : (fun j => iI (wr μ 5003 0 1 5001 j)) = fun j => iI (μ 5001 j) := funext (fun j => by rw [wr_na (by decide)])
    rw [e1]
    exact e
  · rw [wr_na (by decide), wr_na (by decide)]
    exact a2
  · rw [wr_na (by decide)]
    exact a3
  · rw [wr_na (by decide)]
    exact a4 j
theorem wd_out {D : va_G} {cy : Nat → ClassId} {n : Nat} {X0 : Nat → Prop} {sa : Nat} {ad : Nat → Nat} {dv : UInt64} {μ : Mem} {H : Heap} (h : wd D cy n (ad5 ad sa) dv μ X0 H) (hn : n ≤ 400) : wd D cy n ad dv (wr μ 5003 0 0) X0 H := by
  obtain ⟨hR, E, hE, hP, hD⟩ := h
  have ew : wsl cy dv ad (wr μ 5003 0 0) n = wsl cy dv (ad5 ad sa) μ n := by
    rw [wsl_5 hn]
    unfold wsl
    apply List.map_congr_left
    intro k hk
    have hk := List.mem_range.mp hk
    rw [ent_off (fun j => wr_na (by omega))]
  refine ⟨wr_rng hR (by decide), E, ?_, by rw [ew]; exact hP, by rw [ew]; exact hD⟩
  rcases hE with g | ⟨hz, sb, ml, e, a1, a2, a3, a4⟩
  · exact Or.inl g
  refine Or.inr ⟨hz, sb, ml, ?_, fun w => absurd (wr_s _ _ _ _) w, ?_, ?_, fun j => ?_⟩
  · rw [ad5_n (by decide)] at e
    rw [wr_na (by decide), wr_na (by decide)]
    have e1 : (fun j => iI (wr μ 5003 0 0 5001 j)) = fun j => iI (μ 5001 j) := funext (fun j => by rw [wr_na (by decide)])
    rw [e1]
    exact e
  · rw [wr_na (by decide), wr_na (by decide)]
    exact a2
  · rw [wr_na (by decide)]
    exact a3
  · rw [wr_na (by decide)]
    exact a4 j
theorem W_mono {p : Program} {l : Launch} {e : Env} {R : Room} {s : State} {m : MethodId} {args : Array Value} {below : List Frame} {meth : Method} {c : Code} {H : Heap} {locs : List Loc} {cells slots : Nat} {Q Q' : State → Prop} {g : JFrame} (h : W p l e R s m args below meth c H locs cells slots Q g) (hq : ∀ t, Q t → Q' t) : W p l e R s m args below meth c H locs cells slots Q' g := by
  intro T hT X
  obtain ⟨t, a, b⟩ := h T hT X
  exact ⟨t, a, hq t b⟩
section SB
variable {z d kc ks : Nat} {y : MI} {Q : Option Value → Mem → Prop} {X : String → Mem → Prop} {pc : Nat} {ls st : List Value} {μ : Mem}
/-- from here on the row lies at a place with a name -/
theorem go_sbin (hz : 276 ≤ z) (hl5 : nob ls) (hs5 : nob st) (K : go z d kc ks y (fun r μ' => r ≠ some (.ref 5001) ∧ Q r (wr μ' 5003 0 0)) (fun e μ' => X e (wr μ' 5003 0 0)) pc ls st (wr μ 5003 0 1)) : go z d kc ks y Q X pc ls st μ := by
  intro p l e R s m args below meth c D cy X0 mc ms nn ad hc H locs cells slots lsA dv hw hS hl h1 h2
  obtain ⟨c1, c2, c3, c4, c5, c6, c7, c8, c9, c10, c11⟩ := id hc
  obtain ⟨sa, hw1⟩ := wd_in hw (by omega) c10
  have h := go_use (e := e) (below := below) K (cx_5 (sa := sa) hc) hw1 hS (lh_5 hl hl5) h1 h2
  rw [map_5 hs5] at h
  refine W_mono h (fun t ht => ?_)
  obtain ⟨o, t1, t2, t3⟩ := ht
  refine ⟨o, t1, t2, ?_⟩
  rcases t3 with ⟨⟨⟨r, μ1, dv1, q1, q2, q3⟩, q4⟩, q5⟩ | ⟨q, w1, w2⟩
  · refine Or.inl ⟨⟨⟨r, wr μ1 5003 0 0, dv1, ?_, q2.2, wd_out q3 c10⟩, q4⟩, q5⟩
    rw [q1]
    cases r with
    | none => rfl
    | some v => exact congrArg (fun w => Outcome.returned (some w)) (av_5 (fun g => q2.1 (by rw [g])))
  · refine Or.inr ⟨q, w1, ?_⟩
    obtain ⟨E9, ce, L9, ⟨⟨μ1, dv1, g1, g2⟩, g3⟩, w3⟩ := w2
    exact ⟨E9, ce, L9, ⟨⟨wr μ1 5003 0 0, dv1, g1, wd_out g2 c10⟩, g3⟩, w3⟩
end SB
/-! the builder's own rules: mode 1 -/
theorem wsl_len {cy : Nat → ClassId} {dv : UInt64} {ad : Nat → Nat} {μ : Mem} {n : Nat} : (wsl cy dv ad μ n).length = n := by simp [wsl]
theorem wsl_nk {cy : Nat → ClassId} {dv : UInt64} {ad : Nat → Nat} {μ : Mem} {n : Nat} {E : va_W} (k : Nat) : (wsl cy dv ad μ n ++ E)[n + k]? = E[k]? := by
  rw [List.getElem?_append_right (by rw [wsl_len]; omega), wsl_len, Nat.add_sub_cancel_left]
theorem wsl_nset {cy : Nat → ClassId} {dv : UInt64} {ad : Nat → Nat} {μ : Mem} {n : Nat} {E : va_W} {e : Nat × va_E} (k : Nat) : (wsl cy dv ad μ n ++ E).set (n + k) e = wsl cy dv ad μ n ++ E.set k e := by
  rw [List.set_append_right _ _ (by rw [wsl_len]; omega), wsl_len, Nat.add_sub_cancel_left]
theorem wsl_off {cy : Nat → ClassId} {dv : UInt64} {ad : Nat → Nat} {μ μ' : Mem} {n : Nat} (h : ∀ a j, a < n → μ' a j = μ a j) : wsl cy dv ad μ' n = wsl cy dv ad μ n := by
  unfold wsl
  apply List.map_congr_left
  intro k hk
  rw [ent_off (fun j => h k j (List.mem_range.mp hk))]
/-- the output's two cells -/
def e50 (ad : Nat → Nat) (sa : Nat) (ml : Int32) (μ : Mem) : Nat × va_E := (ad 5000, .inr (1, [.ref sa, .int 0, .int ml, .int (iI (μ 5000 0))]))
def e51 (cy : Nat → ClassId) (sa : Nat) (μ : Mem) : Nat × va_E := (sa, .inl (cy 2, (μ 5002 0).toNat, .inl (fun j => iI (μ 5001 j))))
theorem wd_sb {D : va_G} {cy : Nat → ClassId} {n : Nat} {X0 : Nat → Prop} {ad : Nat → Nat} {dv : UInt64} {μ : Mem} {H : Heap} (h : wd D cy n ad dv μ X0 H) (hz : 276 ≤ n) : (∀ a i, rng (μ a i)) ∧ ∃ (sa : Nat) (ml : Int32), va_P D vwCl (wsl cy dv ad μ n ++ [e50 ad sa ml μ, e51 cy sa μ]) H ∧ va_D X0 (wsl cy dv ad μ n ++ [e50 ad sa ml μ, e51 cy sa μ]) ∧
    (μ 5003 0 ≠ 0 → sa = ad 5001) ∧ (0 ≤ μ 5000 0 ∧ μ 5000 0 ≤ μ 5002 0) ∧ (μ 5002 0 = 16 ∨ μ 5002 0 = 22 ∨ μ 5002 0 = 46 ∨ μ 5002 0 = 94 ∨ μ 5002 0 = 190 ∨ μ 5002 0 = 382) ∧ ∀ j, -128 ≤ μ 5001 j ∧ μ 5001 j < 128 := by
  obtain ⟨hR, E, hE, hP, hD⟩ := h
  rcases hE with ⟨g, -⟩ | ⟨-, sa, ml, e, a⟩
  · omega
  subst e
  exact ⟨hR, sa, ml, hP, hD, a⟩
theorem wd_bs {D : va_G} {cy : Nat → ClassId} {n : Nat} {X0 : Nat → Prop} {sa : Nat} {ad : Nat → Nat} {dv : UInt64} {μ : Mem} {H : Heap} {ml : Int32} (hR : ∀ a i, rng (μ a i)) (hz : 276 ≤ n) (hP : va_P D vwCl (wsl cy dv ad μ n ++ [e50 ad sa ml μ, e51 cy sa μ]) H) (hD : va_D X0 (wsl cy dv ad μ n ++ [e50 ad sa ml μ, e51 cy sa μ]))
    (a1 : μ 5003 0 ≠ 0 → sa = ad 5001) (a2 : 0 ≤ μ 5000 0 ∧ μ 5000 0 ≤ μ 5002 0) (a3 : μ 5002 0 = 16 ∨ μ 5002 0 = 22 ∨ μ 5002 0 = 46 ∨ μ 5002 0 = 94 ∨ μ 5002 0 = 190 ∨ μ 5002 0 = 382) (a4 : ∀ j, -128 ≤ μ 5001 j ∧ μ 5001 j < 128) : wd D cy n ad dv μ X0 H :=
  ⟨hR, _, Or.inr ⟨hz, sa, ml, rfl, a1, a2, a3, a4⟩, hP, hD⟩
section SB2
variable {z d kc ks : Nat} {y : MI} {Q : Option Value → Mem → Prop} {X : String → Mem → Prop} {pc : Nat} {ls st : List Value} {μ : Mem} {idx : Nat}
theorem go_bref (hd : decode y.2.1 pc = .ok (.getfield idx, 3)) (hlk : Cond.fieldLink y.1.cls idx RJ5 "value" "[B" ∈ aw) (hz : 276 ≤ z) (hm : μ 5003 0 ≠ 0) (K : go z d kc ks y Q X (pc + 3) ls (.ref 5001 :: st) μ) : go z d kc ks y Q X pc ls (.ref 5000 :: st) μ := by
  intro p l e R s m args below meth c D cy X0 mc ms nn ad hc H locs cells slots lsA dv hw hS hl h1 h2
  obtain ⟨c1, c2, c3, c4, c5, c6, c7, c8, c9, c10, c11⟩ := id hc
  obtain ⟨hR, sa, ml, hP, hD, a1, a2, a3, a4⟩ := wd_sb hw (by omega)
  refine va_get (Ts := aw) (v := .ref (ad 5001)) (T := TJ4) (N := 4) c1 c2 c6 iaJ4 c5 c8.1 hP (nn + 0) (wsl_nk 0) rfl 0 (by decide) (c6 _ hlk) (fun x h => h) ?_ hd (go_use K hc hw hS hl h1 h2)
  rw [← a1 hm]
  rfl
theorem go_bcod (hd : decode y.2.1 pc = .ok (.getfield idx, 3)) (hlk : Cond.fieldLink y.1.cls idx RJ5 "coder" "B" ∈ aw) (hz : 276 ≤ z) (K : go z d kc ks y Q X (pc + 3) ls (.int (iI 0) :: st) μ) : go z d kc ks y Q X pc ls (.ref 5000 :: st) μ := by
  intro p l e R s m args below meth c D cy X0 mc ms nn ad hc H locs cells slots lsA dv hw hS hl h1 h2
  obtain ⟨c1, c2, c3, c4, c5, c6, c7, c8, c9, c10, c11⟩ := id hc
  obtain ⟨hR, sa, ml, hP, hD, a1, a2, a3, a4⟩ := wd_sb hw (by omega)
  exact va_get (Ts := aw) (v := .int (iI 0)) (T := TJ4) (N := 4) c1 c2 c6 iaJ4 c5 c8.1 hP (nn + 0) (wsl_nk 0) rfl 1 (by decide) (c6 _ hlk) (fun x h => h) rfl hd (go_use K hc hw hS hl h1 h2)
theorem go_bcnt (hd : decode y.2.1 pc = .ok (.getfield idx, 3)) (hlk : Cond.fieldLink y.1.cls idx RJ5 "count" "I" ∈ aw) (hz : 276 ≤ z) (K : go z d kc ks y Q X (pc + 3) ls (.int (iI (μ 5000 0)) :: st) μ) : go z d kc ks y Q X pc ls (.ref 5000 :: st) μ := by
  intro p l e R s m args below meth c D cy X0 mc ms nn ad hc H locs cells slots lsA dv hw hS hl h1 h2
  obtain ⟨c1, c2, c3, c4, c5, c6, c7, c8, c9, c10, c11⟩ := id hc
  obtain ⟨hR, sa, ml, hP, hD, a1, a2, a3, a4⟩ := wd_sb hw (by omega)
  exact va_get (Ts := aw) (v := .int (iI (μ 5000 0))) (T := TJ4) (N := 4) c1 c2 c6 iaJ4 c5 c8.1 hP (nn + 0) (wsl_nk 0) rfl 3 (by decide) (c6 _ hlk) (fun x h => h) rfl hd (go_use K hc hw hS hl h1 h2)
theorem go_bsetc {v : Int} (hd : decode y.2.1 pc = .ok (.putfield idx, 3)) (hlk : Cond.fieldLink y.1.cls idx RJ5 "count" "I" ∈ aw) (hz : 276 ≤ z) (hv : 0 ≤ v ∧ v ≤ μ 5002 0) (K : go z d kc ks y Q X (pc + 3) ls st (wr μ 5000 0 v)) : go z d kc ks y Q X pc ls (.int (iI v) :: .ref 5000 :: st) μ := by
  intro p l e R s m args below meth c D cy X0 mc ms nn ad hc H locs cells slots lsA dv hw hS hl h1 h2
  obtain ⟨c1, c2, c3, c4, c5, c6, c7, c8, c9, c10, c11⟩ := id hc
  obtain ⟨hR, sa, ml, hP, hD, a1, a2, a3, a4⟩ := wd_sb hw (by omega)
  have hr : rng v := by unfold rng; omega
  refine va_put (Ts := aw) (v := .int (iI v)) (ty := .int) (T := TJ4) (N := 4) c1 c2 c6 iaJ4 tyJ4 tyJ4_ok nmJ4 c5 c8.1 hP hD hS (nn + 0) (wsl_nk 0) rfl 3 (by decide) (c6 _ hlk) (fun x h => h) rfl rfl rfl rfl (show (3 : Nat) < 4 by decide) hd (fun H1 locs1 hP1 hD1 hS1 => ?_)
  rw [wsl_nset 0] at hP1 hD1
  have ew : wsl cy dv ad (wr μ 5000 0 v) nn = wsl cy dv ad μ nn := wsl_off (fun a j ha => wr_na (by omega))
  have ee : ([e50 ad sa ml μ, e51 cy sa μ] : va_W).set 0 (ad 5000, .inr (1, [Value.ref sa, .int 0, .int ml, .int (iI (μ 5000 0))].set 3 (.int (iI v)))) = [e50 ad sa ml (wr μ 5000 0 v), e51 cy sa (wr μ 5000 0 v)] := by
    unfold e50 e51
    rw [wr_s, wr_na (by decide), show (fun j => iI (wr μ 5000 0 v 5001 j)) = fun j => iI (μ 5001 j) from funext (fun j => by rw [wr_na (by decide)])]
    rfl
  rw [ee, ← ew] at hP1 hD1
  exact go_use K hc (wd_bs (wr_rng hR hr) (by omega) hP1 hD1 (by rw [wr_na (by decide)]; exact a1) (by rw [wr_s, wr_na (by decide)]; exact hv) (by rw [wr_na (by decide)]; exact a3) (fun j => by rw [wr_na (by decide)]; exact a4 j)) hS1 hl h1 h2
theorem go_bsetm (hd : decode y.2.1 pc = .ok (.putfield idx, 3)) (hlk : Cond.fieldLink y.1.cls idx RJ5 "maybeLatin1" "Z" ∈ aw) (hz : 276 ≤ z) (K : go z d kc ks y Q X (pc + 3) ls st μ) : go z d kc ks y Q X pc ls (.int (iI 1) :: .ref 5000 :: st) μ := by
  intro p l e R s m args below meth c D cy X0 mc ms nn ad hc H locs cells slots lsA dv hw hS hl h1 h2
  obtain ⟨c1, c2, c3, c4, c5, c6, c7, c8, c9, c10, c11⟩ := id hc
  obtain ⟨hR, sa, ml, hP, hD, a1, a2, a3, a4⟩ := wd_sb hw (by omega)
  refine va_put (Ts := aw) (v := .int (iI 1)) (ty := .boolean) (T := TJ4) (N := 4) c1 c2 c6 iaJ4 tyJ4 tyJ4_ok nmJ4 c5 c8.1 hP hD hS (nn + 0) (wsl_nk 0) rfl 2 (by decide) (c6 _ hlk) (fun x h => h) rfl rfl (by decide) (by decide) (show (2 : Nat) < 4 by decide) hd (fun H1 locs1 hP1 hD1 hS1 => ?_)
  rw [wsl_nset 0] at hP1 hD1
  exact go_use K hc (wd_bs (ml := iI 1) hR (by omega) hP1 hD1 a1 a2 a3 a4) hS1 hl h1 h2
theorem go_blen (hd : decode y.2.1 pc = .ok (.arraylength, 1)) (hz : 276 ≤ z) (hm : μ 5003 0 ≠ 0) (K : (μ 5002 0 = 16 ∨ μ 5002 0 = 22 ∨ μ 5002 0 = 46 ∨ μ 5002 0 = 94 ∨ μ 5002 0 = 190 ∨ μ 5002 0 = 382) → go z d kc ks y Q X (pc + 1) ls (.int (iI (μ 5002 0)) :: st) μ) : go z d kc ks y Q X pc ls (.ref 5001 :: st) μ := by
  intro p l e R s m args below meth c D cy X0 mc ms nn ad hc H locs cells slots lsA dv hw hS hl h1 h2
  obtain ⟨c1, c2, c3, c4, c5, c6, c7, c8, c9, c10, c11⟩ := id hc
  obtain ⟨hR, sa, ml, hP, hD, a1, a2, a3, a4⟩ := wd_sb hw (by omega)
  rw [a1 hm] at hP
  refine va_alen c1 c2 c8.1 hP (nn + 1) 2 (wsl_nk 1) rfl (v := iI (μ 5002 0)) ?_ hd (go_use (K a3) hc hw hS hl h1 h2)
  show Int32.ofNat (μ 5002 0).toNat = _
  rw [iI_of (by omega)]
  congr 1
  omega
theorem go_blda {k : Nat} {i : Int} (hd : decode y.2.1 pc = .ok (.baload, 1)) (hz : 276 ≤ z) (hm : μ 5003 0 ≠ 0) (hi : i = (k : Int)) (hk : (k : Int) < μ 5002 0) (K : (-128 ≤ μ 5001 k ∧ μ 5001 k < 128) → go z d kc ks y Q X (pc + 1) ls (.int (iI (μ 5001 k)) :: st) μ) : go z d kc ks y Q X pc ls (.int (iI i) :: .ref 5001 :: st) μ := by
  intro p l e R s m args below meth c D cy X0 mc ms nn ad hc H locs cells slots lsA dv hw hS hl h1 h2
  subst hi
  obtain ⟨c1, c2, c3, c4, c5, c6, c7, c8, c9, c10, c11⟩ := id hc
  obtain ⟨hR, sa, ml, hP, hD, a1, a2, a3, a4⟩ := wd_sb hw (by omega)
  rw [a1 hm] at hP
  refine va_bald c1 c2 c8.1 hP (nn + 1) 2 (wsl_nk 1) rfl (iI_in (n := (μ 5002 0).toNat) (by omega) (by omega)) hd ?_
  rw [iI_clamp (by omega)]
  exact go_use (K (a4 k)) hc hw hS hl h1 h2
theorem go_bsta {k : Nat} {i v : Int} (hd : decode y.2.1 pc = .ok (.bastore, 1)) (hz : 276 ≤ z) (hm : μ 5003 0 ≠ 0) (hi : i = (k : Int)) (hk : (k : Int) < μ 5002 0) (hv : -128 ≤ v ∧ v < 128) (K : go z d kc ks y Q X (pc + 1) ls st (wr μ 5001 k v)) : go z d kc ks y Q X pc ls (.int (iI v) :: .int (iI i) :: .ref 5001 :: st) μ := by
  intro p l e R s m args below meth c D cy X0 mc ms nn ad hc H locs cells slots lsA dv hw hS hl h1 h2
  subst hi
  obtain ⟨c1, c2, c3, c4, c5, c6, c7, c8, c9, c10, c11⟩ := id hc
  obtain ⟨hR, sa, ml, hP, hD, a1, a2, a3, a4⟩ := wd_sb hw (by omega)
  have hr : rng v := by unfold rng; omega
  have esa := a1 hm
  subst esa
  refine va_bast c1 c2 c8.1 hP hD hS (nn + 1) 2 (wsl_nk 1) rfl (iI_in (n := (μ 5002 0).toNat) (by omega) (by omega)) hd (fun H1 locs1 hP1 hD1 hS1 => ?_)
  rw [wsl_nset 1, iI_clamp (by omega), nar_by hv, upd_wr] at hP1 hD1
  have ew : wsl cy dv ad (wr μ 5001 k v) nn = wsl cy dv ad μ nn := wsl_off (fun a j ha => wr_na (by omega))
  have ee : ([e50 ad (ad 5001) ml μ, e51 cy (ad 5001) μ] : va_W).set 1 (ad 5001, .inl (cy 2, (μ 5002 0).toNat, .inl (fun j => iI (wr μ 5001 k v 5001 j)))) = [e50 ad (ad 5001) ml (wr μ 5001 k v), e51 cy (ad 5001) (wr μ 5001 k v)] := by
    unfold e50 e51
    rw [wr_na (show (5000 : Nat) ≠ 5001 by decide), wr_na (show (5002 : Nat) ≠ 5001 by decide)]
    rfl
  rw [ee, ← ew] at hP1 hD1
  refine go_use K hc (wd_bs (wr_rng hR hr) (by omega) hP1 hD1 (fun _ => rfl) (by rw [wr_na (by decide), wr_na (by decide)]; exact a2) (by rw [wr_na (by decide)]; exact a3) (fun j => ?_)) hS1 hl h1 h2
  by_cases e : j = k
  · rw [e, wr_s]
    exact hv
  · rw [wr_ni e]
    exact a4 j
/-- what holds of the output -/
theorem go_bfit (hz : 276 ≤ z) (K : (0 ≤ μ 5000 0 ∧ μ 5000 0 ≤ μ 5002 0) → (μ 5002 0 = 16 ∨ μ 5002 0 = 22 ∨ μ 5002 0 = 46 ∨ μ 5002 0 = 94 ∨ μ 5002 0 = 190 ∨ μ 5002 0 = 382) → (∀ j, -128 ≤ μ 5001 j ∧ μ 5001 j < 128) → go z d kc ks y Q X pc ls st μ) : go z d kc ks y Q X pc ls st μ := by
  intro p l e R s m args below meth c D cy X0 mc ms nn ad hc H locs cells slots lsA dv hw hS hl h1 h2
  obtain ⟨c1, c2, c3, c4, c5, c6, c7, c8, c9, c10, c11⟩ := id hc
  obtain ⟨hR, sa, ml, hP, hD, a1, a2, a3, a4⟩ := wd_sb hw (by omega)
  exact go_use (K a2 a3 a4) hc hw hS hl h1 h2
theorem go_dupx1 {a : Int} {b : Nat} (hd : decode y.2.1 pc = .ok (.dup_x1, 1)) (K : go z d kc ks y Q X (pc + 1) ls (.int (iI a) :: .ref b :: .int (iI a) :: st) μ) : go z d kc ks y Q X pc ls (.int (iI a) :: .ref b :: st) μ := by
  intro p l e R s m args below meth c D cy X0 mc ms nn ad hc H locs cells slots lsA dv hw hS hl h1 h2
  exact lv_dup_x1 hc.1 hc.2.1 hd rfl rfl (go_use K hc hw hS hl h1 h2)
theorem go_compact (hd : decode y.2.1 pc = .ok (.getstatic idx, 3)) (hlk : Cond.fieldLink y.1.cls idx RJ0 "COMPACT_STRINGS" "Z" ∈ aw) (K : go z d kc ks y Q X (pc + 3) ls (.int (iI 1) :: st) μ) : go z d kc ks y Q X pc ls st μ := by
  intro p l e R s m args below meth c D cy X0 mc ms nn ad hc H locs cells slots lsA dv hw hS hl h1 h2
  obtain ⟨c1, c2, c3, c4, c5, c6, c7, c8, c9⟩ := id hc
  exact va_gets c1 c2 c8.2.2.2.2.1 hS c5 (c6 _ hlk) (fun x h => h) hd (go_use K hc hw hS hl h1 h2)
theorem go_dones (hd : decode y.2.1 pc = .ok (.getstatic idx, 3)) (hlk : Cond.fieldLink y.1.cls idx "java/lang/Integer" "DigitOnes" "[B" ∈ aw) (K : go z d kc ks y Q X (pc + 3) ls (.ref 7500 :: st) μ) : go z d kc ks y Q X pc ls st μ := by
  intro p l e R s m args below meth c D cy X0 mc ms nn ad hc H locs cells slots lsA dv hw hS hl h1 h2
  obtain ⟨c1, c2, c3, c4, c5, c6, c7, c8, c9⟩ := id hc
  exact va_gets c1 c2 c8.2.2.2.2.2.2.1 hS c5 (c6 _ hlk) (fun x h => h) hd (go_use K hc hw hS hl h1 h2)
theorem go_dtens (hd : decode y.2.1 pc = .ok (.getstatic idx, 3)) (hlk : Cond.fieldLink y.1.cls idx "java/lang/Integer" "DigitTens" "[B" ∈ aw) (K : go z d kc ks y Q X (pc + 3) ls (.ref 7501 :: st) μ) : go z d kc ks y Q X pc ls st μ := by
  intro p l e R s m args below meth c D cy X0 mc ms nn ad hc H locs cells slots lsA dv hw hS hl h1 h2
  obtain ⟨c1, c2, c3, c4, c5, c6, c7, c8, c9⟩ := id hc
  exact va_gets c1 c2 c8.2.2.2.2.2.2.2.2.1 hS c5 (c6 _ hlk) (fun x h => h) hd (go_use K hc hw hS hl h1 h2)
theorem go_done {k : Nat} {i : Int} (hd : decode y.2.1 pc = .ok (.baload, 1)) (hi : i = (k : Int)) (hk : k < 100) (K : go z d kc ks y Q X (pc + 1) ls (.int (iI ((48 + k % 10 : Nat) : Int)) :: st) μ) : go z d kc ks y Q X pc ls (.int (iI i) :: .ref 7500 :: st) μ := by
  intro p l e R s m args below meth c D cy X0 mc ms nn ad hc H locs cells slots lsA dv hw hS hl h1 h2
  subst hi
  obtain ⟨c1, c2, c3, c4, c5, c6, c7, c8, c9⟩ := id hc
  refine va_tb c1 c2 c8.2.2.2.2.2.2.2.1 hS (iI_in hk (by omega)) (v := .int (iI ((48 + k % 10 : Nat) : Int))) ?_ hd (go_use K hc hw hS hl h1 h2)
  rw [iI_clamp (by omega), iI_of (by omega)]
theorem go_dten {k : Nat} {i : Int} (hd : decode y.2.1 pc = .ok (.baload, 1)) (hi : i = (k : Int)) (hk : k < 100) (K : go z d kc ks y Q X (pc + 1) ls (.int (iI ((48 + k / 10 : Nat) : Int)) :: st) μ) : go z d kc ks y Q X pc ls (.int (iI i) :: .ref 7501 :: st) μ := by
  intro p l e R s m args below meth c D cy X0 mc ms nn ad hc H locs cells slots lsA dv hw hS hl h1 h2
  subst hi
  obtain ⟨c1, c2, c3, c4, c5, c6, c7, c8, c9⟩ := id hc
  refine va_tb c1 c2 c8.2.2.2.2.2.2.2.2.2.1 hS (iI_in hk (by omega)) (v := .int (iI ((48 + k / 10 : Nat) : Int))) ?_ hd (go_use K hc hw hS hl h1 h2)
  rw [iI_clamp (by omega), iI_of (by omega)]
end SB2
