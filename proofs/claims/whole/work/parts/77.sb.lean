/-! THE OUTPUT: a StringBuilder and its bytes -/
def ad5 (ad : Nat → Nat) (sa : Nat) : Nat → Nat := fun k => if k = 5001 then sa else ad k
theorem ad5_n {ad : Nat → Nat} {sa k : Nat} (h : k ≠ 5001) : ad5 ad sa k = ad k := if_neg h
theorem ad5_s {ad : Nat → Nat} {sa : Nat} : ad5 ad sa 5001 = sa := if_pos rfl
def nob (l : List Value) : Prop := ∀ v ∈ l, v ≠ .ref 5001
theorem av_5 {ad : Nat → Nat} {sa : Nat} {v : Value} (h : v ≠ .ref 5001) : av_l (ad5 ad sa) v = av_l ad v := by
  cases v with
  | ref k =>
    show Value.ref (ad5 ad sa k) = .ref (ad k)
    rw [ad5_n (fun e => h (by rw [e]))]
  | _ => rfl
theorem map_5 {ad : Nat → Nat} {sa : Nat} {l : List Value} (h : nob l) : l.map (av_l (ad5 ad sa)) = l.map (av_l ad) := List.map_congr_left (fun v hv => av_5 (h v hv))
theorem flv_5 {ad : Nat → Nat} {sa : Nat} {μ : Mem} {k : Nat} : ∀ (fs : List (Option Nat)) (i : Nat), (∀ q, some q ∈ fs → q ≠ 5001) → flv (ad5 ad sa) μ k i fs = flv ad μ k i fs
  | [], _, _ => rfl
  | none :: r, i, h => by
    simp only [flv]
    rw [flv_5 r (i + 1) (fun q hq => h q (List.mem_cons_of_mem _ hq))]
  | some q :: r, i, h => by
    simp only [flv]
    rw [flv_5 r (i + 1) (fun q hq => h q (List.mem_cons_of_mem _ hq)), ad5_n (h q List.mem_cons_self)]
theorem shp_5 : ∀ k < 300, ∀ q ∈ (shp k).2.2, q ≠ some 5001 := by decide +kernel
theorem ent_5 {cy : Nat → ClassId} {dv : UInt64} {ad : Nat → Nat} {μ : Mem} {k sa : Nat} (h : k < 300) : ent cy dv (ad5 ad sa) μ k = ent cy dv ad μ k := by
  have h5 := shp_5 k h
  unfold ent
  split <;> rename_i e <;> rw [e] at h5
  · rw [flv_5 _ 0 (fun q hq e => h5 _ hq (by rw [e]))]
  all_goals first | rfl | skip
  · congr 6
    funext j
    rename_i n fs
    cases g : fs.getD j none with
    | none => rfl
    | some q =>
      have hm : some q ∈ fs := by
        unfold List.getD at g
        cases g2 : fs[j]? with
        | none => rw [g2] at g; cases g
        | some w =>
          rw [g2] at g
          have e2 : w = some q := g
          exact e2 ▸ List.mem_of_getElem? g2
      show some (ad5 ad sa q) = some (ad q)
      rw [ad5_n (fun e => h5 _ hm (by rw [e]))]
theorem wsl_5 {cy : Nat → ClassId} {dv : UInt64} {ad : Nat → Nat} {μ : Mem} {n sa : Nat} (h : n ≤ 300) : wsl cy dv (ad5 ad sa) μ n = wsl cy dv ad μ n := by
  unfold wsl
  apply List.map_congr_left
  intro k hk
  have hk := List.mem_range.mp hk
  rw [ad5_n (by omega), ent_5 (by omega)]
theorem sc_n : sc_l.length < 100 := by decide
theorem kx_5 {D : va_G} {cy : Nat → ClassId} {X0 sa : Nat} {ad : Nat → Nat} {U : State} {H : Heap} (h : kx D cy X0 ad U H) : kx D cy X0 (ad5 ad sa) U H := by
  obtain ⟨h0, h1, h2, h3, h4, h5, h6, h7, h8, h9, h10⟩ := h
  refine ⟨h0, fun i q hi => ?_, h2, h3, h4, ⟨h5.1, ?_⟩, ?_, ?_, ?_, ?_, h10⟩
  · have hl := (List.getElem?_eq_some_iff.mp hi).1
    have hn := sc_n
    have g := h1 i q hi
    unfold sc_ok at g ⊢
    rw [ad5_n (by omega), ad5_n (by omega)]
    exact g
  · obtain ⟨v, g1, g2⟩ := h5.2
    exact ⟨v, by rw [ad5_n (by decide)]; exact g1, g2⟩
  · rw [ad5_n (by decide)]; exact h6
  · rw [ad5_n (by decide)]; exact h7
  · rw [ad5_n (by decide)]; exact h8
  · rw [ad5_n (by decide)]; exact h9
theorem cx_5 {z d : Nat} {y : MI} {p : Program} {l : Launch} {R : Room} {s : State} {m : MethodId} {args : Array Value} {meth : Method} {c : Code} {D : va_G} {cy : Nat → ClassId} {X0 mc ms n sa : Nat} {ad : Nat → Nat} (h : cx z d y p l R s m args meth c D cy X0 mc ms n ad) : cx z d y p l R s m args meth c D cy X0 mc ms n (ad5 ad sa) := by
  obtain ⟨c1, c2, c3, c4, c5, c6, c7, c8, c9, c10, c11, c12, c13, c14, c15, c16, c17, c18, c19⟩ := h
  refine ⟨c1, c2, c3, c4, c5, c6, c7, kx_5 c8, c9, c10, c11, c12, c13, c14, c15, c16, c17, c18, fun L xs e => ?_⟩
  rw [ad5_n (by decide)]
  exact c19 L xs e
theorem lh_5 {ad : Nat → Nat} {sa : Nat} {lsA : Array Slot} {nL : Nat} {ls : List Value} (h : lh ad lsA nL ls) (hn : nob ls) : lh (ad5 ad sa) lsA nL ls := by
  obtain ⟨h1, h2, h3, h4, h5⟩ := h
  refine ⟨h1, h2, h3, h4, fun i v hv hne => ?_⟩
  rw [av_5 (hn v (List.mem_of_getElem? hv))]
  exact h5 i v hv hne
theorem wd_in {D : va_G} {cy : Nat → ClassId} {n X0 : Nat} {ad : Nat → Nat} {dv : UInt64} {μ : Mem} {H : Heap} (h : wd D cy n ad dv μ X0 H) (hz : 276 ≤ n) (hn : n ≤ 300) : ∃ sa, wd D cy n (ad5 ad sa) dv (wr μ 5003 0 1) X0 H := by
  obtain ⟨hR, E, hE, hP, hD⟩ := h
  rcases hE with ⟨g, -⟩ | ⟨-, sa, ml, e, a1, a2, a3, a4⟩
  · omega
  have ew : wsl cy dv (ad5 ad sa) (wr μ 5003 0 1) n = wsl cy dv ad μ n := by
    rw [wsl_5 hn]
    unfold wsl
    apply List.map_congr_left
    intro k hk
    have hk := List.mem_range.mp hk
    rw [ent_off (fun j => wr_na (by omega))]
  refine ⟨sa, wr_rng hR (by decide), E, Or.inr ⟨hz, sa, ml, ?_, fun _ => ad5_s.symm, ?_, ?_, fun j => ?_⟩, by rw [ew]; exact hP, by rw [ew]; exact hD⟩
  · rw [ad5_n (by decide), wr_na (by decide), wr_na (by decide)]
    have e1 : (fun j => iI (wr μ 5003 0 1 5001 j)) = fun j => iI (μ 5001 j) := funext (fun j => by rw [wr_na (by decide)])
    rw [e1]
    exact e
  · rw [wr_na (by decide), wr_na (by decide)]
    exact a2
  · rw [wr_na (by decide)]
    exact a3
  · rw [wr_na (by decide)]
    exact a4 j
theorem wd_out {D : va_G} {cy : Nat → ClassId} {n X0 sa : Nat} {ad : Nat → Nat} {dv : UInt64} {μ : Mem} {H : Heap} (h : wd D cy n (ad5 ad sa) dv μ X0 H) (hn : n ≤ 300) : wd D cy n ad dv (wr μ 5003 0 0) X0 H := by
  obtain ⟨hR, E, hE, hP, hD⟩ := h
  have ew : wsl cy dv ad (wr μ 5003 0 0) n = wsl cy dv (ad5 ad sa) μ n := by
    rw [wsl_5 hn]
    unfold wsl
    apply List.map_congr_left
    intro k hk
    have hk := List.mem_range.mp hk
    rw [ent_off (fun j => wr_na (by omega))]
  refine ⟨wr_rng hR (by decide), E, ?_, by rw [ew]; exact hP, by rw [ew]; exact hD⟩
  rcases hE with g | ⟨hz, sb, ml, e, a1, a2, a3, a4⟩
  · exact Or.inl g
  refine Or.inr ⟨hz, sb, ml, ?_, fun w => absurd (wr_s _ _ _ _) w, ?_, ?_, fun j => ?_⟩
  · rw [ad5_n (by decide)] at e
    rw [wr_na (by decide), wr_na (by decide)]
    have e1 : (fun j => iI (wr μ 5003 0 0 5001 j)) = fun j => iI (μ 5001 j) := funext (fun j => by rw [wr_na (by decide)])
    rw [e1]
    exact e
  · rw [wr_na (by decide), wr_na (by decide)]
    exact a2
  · rw [wr_na (by decide)]
    exact a3
  · rw [wr_na (by decide)]
    exact a4 j
theorem W_mono {p : Program} {l : Launch} {e : Env} {R : Room} {s : State} {m : MethodId} {args : Array Value} {below : List Frame} {meth : Method} {c : Code} {H : Heap} {locs : List Loc} {cells slots : Nat} {Q Q' : State → Prop} {g : JFrame} (h : W p l e R s m args below meth c H locs cells slots Q g) (hq : ∀ t, Q t → Q' t) : W p l e R s m args below meth c H locs cells slots Q' g := by
  intro T hT X
  obtain ⟨t, a, b⟩ := h T hT X
  exact ⟨t, a, hq t b⟩
section SB
variable {z d kc ks : Nat} {y : MI} {Q : Option Value → Mem → Prop} {X : String → Mem → Prop} {pc : Nat} {ls st : List Value} {μ : Mem}
/-- from here on the row lies at a place with a name -/
theorem go_sbin (hz : 276 ≤ z) (hl5 : nob ls) (hs5 : nob st) (K : go z d kc ks y (fun r μ' => r ≠ some (.ref 5001) ∧ Q r (wr μ' 5003 0 0)) (fun e μ' => X e (wr μ' 5003 0 0)) pc ls st (wr μ 5003 0 1)) : go z d kc ks y Q X pc ls st μ := by
  intro p l e R s m args below meth c D cy X0 mc ms nn ad hc H locs cells slots lsA dv hw hS hl h1 h2
  obtain ⟨c1, c2, c3, c4, c5, c6, c7, c8, c9, c10, c11⟩ := id hc
  obtain ⟨sa, hw1⟩ := wd_in hw (by omega) c10
  have h := go_use K (cx_5 (sa := sa) hc) hw1 hS (lh_5 hl hl5) h1 h2
  rw [map_5 hs5] at h
  refine W_mono h (fun t ht => ?_)
  obtain ⟨o, t1, t2, t3⟩ := ht
  refine ⟨o, t1, t2, ?_⟩
  rcases t3 with ⟨⟨⟨r, μ1, dv1, q1, q2, q3⟩, q4⟩, q5⟩ | ⟨q, w1, w2⟩
  · refine Or.inl ⟨⟨⟨r, wr μ1 5003 0 0, dv1, ?_, q2.2, wd_out q3 c10⟩, q4⟩, q5⟩
    rw [q1]
    cases r with
    | none => rfl
    | some v => exact congrArg (fun w => Outcome.returned (some w)) (av_5 (fun g => q2.1 (by rw [g])))
  · refine Or.inr ⟨q, w1, ?_⟩
    obtain ⟨E9, ce, L9, ⟨⟨μ1, dv1, g1, g2⟩, g3⟩, w3⟩ := w2
    exact ⟨E9, ce, L9, ⟨⟨wr μ1 5003 0 0, dv1, g1, wd_out g2 c10⟩, g3⟩, w3⟩
end SB
