/-! FROM A LIST OF CELLS TO A MEMORY -/
theorem nd_of {ws : va_W} (h : ∀ (i j : Nat) (p q : Nat × va_E), ws[i]? = some p → ws[j]? = some q → p.1 = q.1 → i = j) : (ws.map Prod.fst).Nodup := by
  unfold List.Nodup
  rw [List.pairwise_iff_getElem]
  intro i j hi hj hij e
  rw [List.length_map] at hi hj
  rw [List.getElem_map, List.getElem_map] at e
  have := h i j ws[i] ws[j] (List.getElem?_eq_getElem hi) (List.getElem?_eq_getElem hj) e
  omega
theorem of_nd {ws : va_W} (h : (ws.map Prod.fst).Nodup) : ∀ (i j : Nat) (p q : Nat × va_E), ws[i]? = some p → ws[j]? = some q → p.1 = q.1 → i = j := by
  unfold List.Nodup at h
  rw [List.pairwise_iff_getElem] at h
  intro i j p q hi hj e
  obtain ⟨li, rfl⟩ := List.getElem?_eq_some_iff.mp hi
  obtain ⟨lj, rfl⟩ := List.getElem?_eq_some_iff.mp hj
  rcases Nat.lt_trichotomy i j with g | g | g
  · exact absurd (by rw [List.getElem_map, List.getElem_map]; exact e) (h i j (by rw [List.length_map]; exact li) (by rw [List.length_map]; exact lj) g)
  · exact g
  · exact absurd (by rw [List.getElem_map, List.getElem_map]; exact e.symm) (h j i (by rw [List.length_map]; exact lj) (by rw [List.length_map]; exact li) g)
theorem va_D_perm {A : Nat → Prop} {ws ws' : va_W} (hp : ws.Perm ws') (h : va_D A ws) : va_D A ws' := by
  refine ⟨of_nd ((hp.map Prod.fst).nodup_iff.mp (nd_of h.1)), fun k q hk => ?_⟩
  have hm : q ∈ ws := hp.mem_iff.mpr (List.mem_of_getElem? hk)
  obtain ⟨i, hi⟩ := List.getElem?_of_mem hm
  exact h.2 i q hi
theorem va_P_perm {D : va_G} {cl : List vw_C} {H : Heap} {ws ws' : va_W} (hp : ws.Perm ws') (h : va_P D cl ws H) : va_P D cl ws' H := by
  intro k q hk
  have hm : q ∈ ws := hp.mem_iff.mpr (List.mem_of_getElem? hk)
  obtain ⟨i, hi⟩ := List.getElem?_of_mem hm
  exact h i q hi
section Enter
variable {D : va_G} {cy : Nat → ClassId} {X0 : Nat → Prop} {ad : Nat → Nat} {d kc ks : Nat} {y : MI} {PQ : Array Value → State → Outcome → State → Prop} {pc : Nat} {ls st : List Value} {ws : va_W} {h : Nat}
theorem gc_go {n z : Nat} {μ : Mem} {dv : UInt64} {E : va_W} {Q : Option Value → Mem → Prop} {X : String → Mem → Prop} (hz : z ≤ n) (hn : n ≤ 400) (hR : ∀ a i, rng (μ a i)) (hE : sbx cy ad μ n E) (hp : ws.Perm (wsl cy dv ad μ n ++ E)) (K : go z d kc ks y Q X pc ls st μ) : gc D cy X0 ad d kc ks y (gQ D cy X0 n ad Q) (gX D cy X0 n ad X) pc ls st ws h := by
  intro p l e R s m args below meth c mc ms hc ho H locs cells slots lsA hP hD hz9 hS hl h1 h2
  obtain ⟨c1, c2, c3, c4, c5, c6, c7, c8, c9, c10, c11, c12, c13, c14, c15, c16, c17, c18, c19⟩ := id hc
  exact go_use K (n := n) ⟨c1, c2, c3, c4, c5, c6, c7, c8, hz, hn, c11, c12, c13, c14, c15, c16, c17, c18, c19⟩ ⟨hR, E, hE, va_P_perm hp hP, va_D_perm hp hD⟩ hS hl h1 h2
theorem vx_MQ_mono {below : List Frame} {PQ' : Array Value → State → Outcome → State → Prop} {PX PX' : String → State → State → Prop} {a : Array Value} {s : State} {mc ms : Nat} {free : Addr → Prop} (hq : ∀ st o t, PQ a st o t → PQ' a st o t) (hx : ∀ E st t, PX E st t → PX' E st t) (t : State) (h : vx_MQ below PQ PX a s mc ms free t) : vx_MQ below PQ' PX' a s mc ms free t := by
  obtain ⟨o, t1, t2, t3⟩ := h
  refine ⟨o, t1, t2, ?_⟩
  rcases t3 with ⟨q1, q2⟩ | ⟨q, w1, E, ce, L, w2, w3⟩
  · exact Or.inl ⟨hq _ _ _ q1, q2⟩
  · exact Or.inr ⟨q, w1, E, ce, L, hx _ _ _ w2, w3⟩
theorem gc_noX {n : Nat} (K : gc D cy X0 ad d kc ks y PQ (gX D cy X0 n ad (fun _ _ => False)) pc ls st ws h) : gc D cy X0 ad d kc ks y PQ noX pc ls st ws h := by
  intro p l e R s m args below meth c mc ms hc ho H locs cells slots lsA hP hD hz hS hl h1 h2
  exact W_mono (gc_use K hc ho hP hD hz hS hl h1 h2) (fun t ht => vx_MQ_mono (fun _ _ _ q => q) (fun E st t q => by obtain ⟨⟨μ, dv, g, -⟩, -⟩ := q; exact g) t ht)
end Enter
theorem stb_ad {X0 : Nat → Prop} {ad ad' : Nat → Nat} {U : State} {H : Heap} (h : stb X0 ad U H) (e : ∀ k, 7000 ≤ k → ad' k = ad k) : stb X0 ad' U H := by
  unfold stb sc_ok zn_q at h ⊢
  rw [e 7500 (by decide), e 7501 (by decide), e 7502 (by decide)]
  refine ⟨fun i q hi => ?_, h.2⟩
  rw [e (7000 + i) (by omega), e (7200 + i) (by omega)]
  exact h.1 i q hi
/-! the numbering, changed where nothing lies yet -/
section Renumber
variable {ad ad' : Nat → Nat} {cy : Nat → ClassId} {dv : UInt64} {μ : Mem}
theorem flv_ad {k : Nat} : ∀ (fs : List (Option Nat)) (i : Nat), (∀ q, some q ∈ fs → ad' q = ad q) → flv ad' μ k i fs = flv ad μ k i fs
  | [], _, _ => rfl
  | none :: r, i, h => by
    simp only [flv]
    rw [flv_ad r (i + 1) (fun q hq => h q (List.mem_cons_of_mem _ hq))]
  | some q :: r, i, h => by
    simp only [flv]
    rw [flv_ad r (i + 1) (fun q hq => h q (List.mem_cons_of_mem _ hq)), h q List.mem_cons_self]
theorem ent_ad {k : Nat} (h : ∀ q, some q ∈ (shp k).2.2 → ad' q = ad q) : ent cy dv ad' μ k = ent cy dv ad μ k := by
  unfold ent
  split <;> rename_i e <;> rw [e] at h
  · rw [flv_ad _ 0 (fun q hq => h q hq)]
  all_goals first | rfl | skip
  · rename_i n fs
    refine congrArg (fun g => (Sum.inl (cy 3, n, Sum.inr (Sum.inr (Sum.inr (Sum.inr g)))) : va_E)) ?_
    funext j
    cases g : fs.getD j none with
    | none => rfl
    | some q =>
      have hm : some q ∈ fs := by
        unfold List.getD at g
        cases g2 : fs[j]? with
        | none => rw [g2] at g; cases g
        | some w =>
          rw [g2] at g
          have e2 : w = some q := g
          exact e2 ▸ List.mem_of_getElem? g2
      show some (ad' q) = some (ad q)
      rw [h q hm]
theorem wsl_ad {n : Nat} (h : ∀ k, k < n → ad' k = ad k) (hr : ∀ k, k < n → ∀ q, some q ∈ (shp k).2.2 → ad' q = ad q) : wsl cy dv ad' μ n = wsl cy dv ad μ n := by
  unfold wsl
  apply List.map_congr_left
  intro k hk
  have hk := List.mem_range.mp hk
  rw [h k hk, ent_ad (hr k hk)]
/-- the numbers from n0 on, now from a0 on -/
def adx (ad : Nat → Nat) (n0 a0 : Nat) : Nat → Nat := fun k => if n0 ≤ k ∧ k < 400 then a0 + (k - n0) else ad k
theorem adx_o {n0 a0 k : Nat} (h : k < n0 ∨ 400 ≤ k) : adx ad n0 a0 k = ad k := if_neg (by omega)
theorem adx_n {n0 a0 : Nat} (i : Nat) (h : n0 + i < 400) : adx ad n0 a0 (n0 + i) = a0 + i := by
  unfold adx
  rw [if_pos ⟨by omega, h⟩, Nat.add_sub_cancel_left]
theorem ref_276 : ∀ k < 276, ∀ q ∈ (shp k).2.2, q.getD 5000 < 276 ∨ 400 ≤ q.getD 5000 := by decide +kernel
theorem ref_293 : ∀ k < 293, ∀ q ∈ (shp k).2.2, q.getD 5000 < 293 ∨ 400 ≤ q.getD 5000 := by decide +kernel
theorem ref_310 : ∀ k < 310, ∀ q ∈ (shp k).2.2, q.getD 5000 < 310 ∨ 400 ≤ q.getD 5000 := by decide +kernel
theorem ref_5000 : ∀ k < 293, ∀ q ∈ (shp k).2.2, q.getD 5000 < 400 ∨ 5000 ≤ q.getD 5000 := by decide +kernel
theorem ref_401 : ∀ k < 310, ∀ q ∈ (shp k).2.2, q ≠ some 401 := by decide +kernel
theorem sbx_ad {n : Nat} {E : va_W} (h : sbx cy ad μ n E) (e0 : ad' 5000 = ad 5000) (e1 : ad' 5001 = ad 5001) : sbx cy ad' μ n E := by
  unfold sbx at h ⊢
  rw [e0, e1]
  exact h
theorem lh_ad {lsA : Array Slot} {nL : Nat} {ls : List Value} (h : lh ad lsA nL ls) (e : ∀ v ∈ ls, av_l ad' v = av_l ad v) : lh ad' lsA nL ls := by
  obtain ⟨h1, h2, h3, h4, h5⟩ := h
  refine ⟨h1, h2, h3, h4, fun i v hv hne => ?_⟩
  rw [e v (List.mem_of_getElem? hv)]
  exact h5 i v hv hne
theorem cx_ad {z d : Nat} {y : MI} {p : Program} {l : Launch} {R : Room} {s : State} {m : MethodId} {args : Array Value} {meth : Method} {c : Code} {D : va_G} {X0 : Nat → Prop} {mc ms n : Nat} (h : cx z d y p l R s m args meth c D cy X0 mc ms n ad) (e6 : ad' 6000 = ad 6000 ∧ ad' 6100 = ad 6100 ∧ ad' 6101 = ad 6101) (e7 : ∀ k, 7000 ≤ k → ad' k = ad k) : cx z d y p l R s m args meth c D cy X0 mc ms n ad' := by
  obtain ⟨c1, c2, c3, c4, c5, c6, c7, c8, c9, c10, c11, c12, c13, c14, c15, c16, c17, c18, c19⟩ := h
  refine ⟨c1, c2, c3, c4, c5, c6, c7, ⟨c8.1, stb_ad c8.2 e7⟩, c9, c10, c11, c12, c13, c14, c15, c16, c17, c18, ?_⟩
  unfold scx
  rw [e6.1, e6.2.1, e6.2.2]
  exact c19
end Renumber
/-! what the class's constructor makes is a memory -/
def z0 : Mem := fun _ _ => 0
def m0 : Mem := fun a _ => if a = 5002 then 16 else 0
def wbk (cy : Nat → ClassId) (ad : Nat → Nat) (s n : Nat) : va_W := (List.range' s n).map (fun k => (ad k, ent cy 0 ad z0 k))
theorem wbk_add {cy : Nat → ClassId} {ad : Nat → Nat} {s m n : Nat} : wbk cy ad s (m + n) = wbk cy ad s m ++ wbk cy ad (s + m) n := by
  unfold wbk
  rw [← List.map_append, ← List.range'_append_1]
theorem wsl_wbk {cy : Nat → ClassId} {ad : Nat → Nat} {n : Nat} (h : n ≤ 400) : wsl cy 0 ad m0 n = wbk cy ad 0 n := by
  unfold wsl wbk
  rw [List.range_eq_range']
  apply List.map_congr_left
  intro k hk
  have hk : k < n := by
    have := List.mem_range'_1.mp hk
    omega
  rw [ent_off (μ := z0) (μ' := m0) (fun j => by show (if k = 5002 then (16 : Int) else 0) = 0; rw [if_neg (by omega)])]
theorem wbk_ch {cy : Nat → ClassId} {ad : Nat → Nat} {c : Nat} (hc : is_ch c) : wbk cy ad c 21 = chC cy ad c 10 := by
  have hs := ch_sh hc
  have e (r : Nat) (hr : r < 21) : ent cy 0 ad z0 (c + r) = (match ch_shp c r with
    | (0, ci, fs) => .inr (ci, flv ad z0 (c + r) 0 fs)
    | (_, n, _) => .inl (cy 0, n, .inl (fun _ => iI 0))) := by
    have h := hs r hr
    rcases (show r = 0 ∨ r = 1 ∨ r = 2 ∨ r = 3 ∨ r = 4 ∨ r = 5 ∨ r = 6 ∨ r = 7 ∨ r = 8 ∨ r = 9 ∨ r = 10 ∨ r = 11 ∨ r = 12 ∨ r = 13 ∨ r = 14 ∨ r = 15 ∨ r = 16 ∨ r = 17 ∨ r = 18 ∨ r = 19 ∨ r = 20 by omega) with g | g | g | g | g | g | g | g | g | g | g | g | g | g | g | g | g | g | g | g | g <;> subst g <;> (unfold ent; rw [h]; rfl)
  have l : List.range' c 21 = [c + 0, c + 1, c + 2, c + 3, c + 4, c + 5, c + 6, c + 7, c + 8, c + 9, c + 10, c + 11, c + 12, c + 13, c + 14, c + 15, c + 16, c + 17, c + 18, c + 19, c + 20] := rfl
  unfold wbk
  rw [l]
  simp only [List.map_cons, List.map_nil]
  rw [e 0 (by decide), e 1 (by decide), e 2 (by decide), e 3 (by decide), e 4 (by decide), e 5 (by decide), e 6 (by decide), e 7 (by decide), e 8 (by decide), e 9 (by decide), e 10 (by decide), e 11 (by decide), e 12 (by decide), e 13 (by decide), e 14 (by decide), e 15 (by decide), e 16 (by decide), e 17 (by decide), e 18 (by decide), e 19 (by decide), e 20 (by decide)]
  rfl
