/-! pieces of what holds of a setup and a chamber -/
theorem wf_n {S : Mem} (hS : wfS S) : 1 ≤ S 0 7 ∧ S 0 7 ≤ 12 ∧ 1 ≤ S 0 0 ∧ S 0 0 ≤ 4 := ⟨hS.2.2.2.2.2.2.2.2.2.2.2.2.2.2.1, hS.2.2.2.2.2.2.2.2.2.2.2.2.2.2.2.1, hS.1, hS.2.1⟩
theorem wf_m {S : Mem} (hS : wfS S) : ∀ m : Nat, (m : Int) < S 0 7 → 1 ≤ S 2 m ∧ S 2 m ≤ 9 ∧ 0 ≤ S 3 m ∧ S 3 m ≤ 20 ∧ 0 ≤ S 4 m ∧ S 4 m ≤ 99 := hS.2.2.2.2.2.2.2.2.2.2.2.2.2.2.2.2
theorem wf_r {S s : Mem} (hS : wfS S) (hC : wfC S s) : 0 ≤ s 5 0 ∧ s 5 0 ≤ 16 ∧ 0 ≤ s 11 0 ∧ s 11 0 ≤ 12 := by
  have := wf_n hS
  have := hC.1
  omega
abbrev Rq : Type := Int × Int × Int
def cls (s : Mem) (n : Nat) : List Rq := (List.range n).map (fun r => (s 12 r, s 13 r, s 14 r))
theorem cls_s (s : Mem) (n : Nat) : cls s (n + 1) = cls s n ++ [(s 12 n, s 13 n, s 14 n)] := by
  unfold cls
  rw [List.range_succ, List.map_append]
  rfl
theorem cls_g {s : Mem} {n r : Nat} (h : r < n) : (cls s n)[r]? = some (s 12 r, s 13 r, s 14 r) := by
  unfold cls
  rw [List.getElem?_map, List.getElem?_range h]
  rfl
theorem cls_n (s : Mem) (n : Nat) : (cls s n).length = n := by unfold cls; rw [List.length_map, List.length_range]
theorem cls_c {s t : Mem} {n : Nat} (h : ∀ r, r < n → t 12 r = s 12 r ∧ t 13 r = s 13 r ∧ t 14 r = s 14 r) : cls t n = cls s n := by
  unfold cls
  apply List.map_congr_left
  intro r hr
  have := h r (List.mem_range.mp hr)
  rw [this.1, this.2.1, this.2.2]
theorem mvr_n {s : Mem} {i e r j : Nat} (h : j ≠ e) : mvr s i e r j = s r j := by
  unfold mvr
  rw [wr_ni h, wr_ni h, wr_ni h]
theorem mvr_e {s : Mem} {i e r : Nat} (h : 12 ≤ r ∧ r ≤ 14) : mvr s i e r e = s r i := by
  unfold mvr wr
  rcases (by omega : r = 12 ∨ r = 13 ∨ r = 14) with g | g | g <;> subst g <;> simp
theorem cab_k_ge {s : Mem} {q : Int} {r j : Nat} : ∀ k, (cab_k s q k).2 ≤ j → (cab_k s q k).1 r j = s r j
  | 0, _ => rfl
  | k + 1, h => by
    rw [cab_k] at h ⊢
    split
    · rename_i g
      rw [if_pos g] at h
      have h2 : (cab_k s q k).2 + 1 ≤ j := h
      show mvr _ _ _ r j = _
      rw [mvr_n (by omega), cab_k_ge k (by omega)]
    · rename_i g
      rw [if_neg g] at h
      exact cab_k_ge k h
theorem cab_l (s : Mem) (q : Int) : ∀ k, cls (cab_k s q k).1 (cab_k s q k).2 = (cls s k).filter (fun t => decide (t.2.1 ≠ q))
  | 0 => rfl
  | k + 1 => by
    have ih := cab_l s q k
    have hle := cab_k_le s q k
    have e13 : (cab_k s q k).1 13 k = s 13 k := cab_k_ge k hle
    rw [cls_s, List.filter_append, ← ih, cab_k]
    by_cases g : (cab_k s q k).1 13 k ≠ q
    · rw [if_pos g]
      show cls (mvr (cab_k s q k).1 k (cab_k s q k).2) ((cab_k s q k).2 + 1) = _
      rw [cls_s, cls_c (fun r hr => ⟨mvr_n (by omega), mvr_n (by omega), mvr_n (by omega)⟩), mvr_e (by decide), mvr_e (by decide), mvr_e (by decide), cab_k_ge k hle, cab_k_ge k hle, cab_k_ge k hle]
      rw [e13] at g
      congr 1
      rw [List.filter_cons_of_pos (by simpa using g)]
      rfl
    · rw [if_neg g]
      rw [e13] at g
      rw [List.filter_cons_of_neg (by simpa using g)]
      simp
theorem cab_11 (s : Mem) (q : Int) : cab s q 11 0 = ((cab_k s q (s 11 0).toNat).2 : Int) := wr_s _ _ _ _
theorem cls_cab (s : Mem) (q : Int) : cls (cab s q) (cab s q 11 0).toNat = (cls s (s 11 0).toNat).filter (fun t => decide (t.2.1 ≠ q)) := by
  rw [← cab_l, cab_11]
  have e : ((cab_k s q (s 11 0).toNat).2 : Int).toNat = (cab_k s q (s 11 0).toNat).2 := by omega
  rw [e]
  apply cls_c
  intro r hr
  unfold cab
  rw [wr_na (by decide), wr_na (by decide), wr_na (by decide)]
  exact ⟨rfl, rfl, rfl⟩
theorem wf_cab {S s : Mem} {q : Int} (hC : wfC S s) : wfC S (cab s q) := by
  obtain ⟨⟨a1, a2, a3, a4, a5, a6, a7⟩, b, c, d, e, f⟩ := hC
  have o : ∀ r i, r < 11 ∨ 14 < r → cab s q r i = s r i := fun r i hr => cab_o hr
  have l : ∀ m x, ln (cab s q) m x = ln s m x := fun m x => o _ _ (by decide)
  have hle := cab_k_le s q (s 11 0).toNat
  have h11 := cab_11 s q
  have hmem : ∀ r : Nat, (r : Int) < cab s q 11 0 → ∃ k : Nat, (k : Int) < s 11 0 ∧ cab s q 12 r = s 12 k ∧ cab s q 13 r = s 13 k ∧ cab s q 14 r = s 14 k := by
    intro r hr
    have h1 := cls_g (s := cab s q) (n := (cab s q 11 0).toNat) (r := r) (by omega)
    rw [cls_cab] at h1
    have h2 := (List.mem_filter.mp (List.mem_of_getElem? h1)).1
    obtain ⟨k, hk, hk2⟩ := List.mem_map.mp h2
    have hk3 := List.mem_range.mp hk
    simp only [Prod.mk.injEq] at hk2
    exact ⟨k, by omega, hk2.1.symm, hk2.2.1.symm, hk2.2.2.symm⟩
  have hpw : (cls (cab s q) (cab s q 11 0).toNat).Pairwise (fun x y => x.1 ≠ y.1) := by
    rw [cls_cab]
    apply List.Pairwise.filter
    unfold cls
    rw [List.pairwise_map]
    refine List.Pairwise.imp_of_mem ?_ List.pairwise_lt_range
    intro i j hi hj hij w
    have hi2 := List.mem_range.mp hi
    have hj2 := List.mem_range.mp hj
    have := e i j (by omega) (by omega) w
    omega
  refine ⟨⟨by rw [o 5 0 (by decide)]; exact a1, by rw [o 5 0 (by decide)]; exact a2, by omega, by omega, by rw [o 0 6 (by decide)]; exact a5, by rw [o 0 6 (by decide)]; exact a6, by rw [mrs_c (fun j _ => o 20 j (by decide))]; exact a7⟩, fun m hm => ?_, fun x hx => ?_, fun r hr => ?_, fun r k hr hk => ?_, fun i hi => ?_⟩
  · rw [o 2 m (by decide), o 3 m (by decide)]; exact b m hm
  · rw [o 5 0 (by decide)] at hx
    rw [o 6 x (by decide), o 7 x (by decide), o 8 x (by decide), o 9 x (by decide)]
    simp only [l]
    exact c x hx
  · obtain ⟨k, hk, k1, k2, k3⟩ := hmem r hr
    rw [k1, k2, k3, o 5 0 (by decide)]
    exact d k hk
  · intro w
    have g1 := cls_g (s := cab s q) (n := (cab s q 11 0).toNat) (r := r) (by omega)
    have g2 := cls_g (s := cab s q) (n := (cab s q 11 0).toNat) (r := k) (by omega)
    have hp := List.pairwise_iff_getElem.mp hpw
    rcases Nat.lt_trichotomy r k with h | h | h
    · have := hp r k (by rw [cls_n]; omega) (by rw [cls_n]; omega) h
      rw [Option.some.inj ((List.getElem?_eq_getElem (by rw [cls_n]; omega)).symm.trans g1), Option.some.inj ((List.getElem?_eq_getElem (by rw [cls_n]; omega)).symm.trans g2)] at this
      exact absurd w this
    · exact h
    · have := hp k r (by rw [cls_n]; omega) (by rw [cls_n]; omega) h
      rw [Option.some.inj ((List.getElem?_eq_getElem (by rw [cls_n]; omega)).symm.trans g1), Option.some.inj ((List.getElem?_eq_getElem (by rw [cls_n]; omega)).symm.trans g2)] at this
      exact absurd w.symm this
  · rw [o 16 i (by decide), o 17 i (by decide), o 18 i (by decide), o 19 i (by decide), o 20 i (by decide), o 5 0 (by decide)]
    exact f i hi
theorem wf_w {S s : Mem} {a i : Nat} {v : Int} (hC : wfC S s) (ha : a = 4 ∨ (a = 0 ∧ i ≠ 6) ∨ (a = 0 ∧ 0 ≤ v ∧ v ≤ 3) ∨ (a = 2 ∧ 0 ≤ v ∧ v ≤ 99) ∨ (a = 3 ∧ 0 ≤ v ∧ v ≤ 5) ∨ (a = 7 ∧ 0 ≤ v ∧ v ≤ 3)) : wfC S (wr s a i v) := by
  obtain ⟨⟨a1, a2, a3, a4, a5, a6, a7⟩, b, c, d, e, f⟩ := hC
  have o : ∀ r j, r ≠ a → wr s a i v r j = s r j := fun r j hr => wr_na hr
  have l : ∀ m q, ln (wr s a i v) m q = ln s m q := fun m q => wr_na (by omega)
  have o6 : 0 ≤ wr s a i v 0 6 ∧ wr s a i v 0 6 ≤ 3 := by
    unfold wr
    split <;> omega
  refine ⟨⟨by rw [o 5 0 (by omega)]; exact a1, by rw [o 5 0 (by omega)]; exact a2, by rw [o 11 0 (by omega)]; exact a3, by rw [o 11 0 (by omega)]; exact a4, o6.1, o6.2, by rw [mrs_c (fun j _ => o 20 j (by omega))]; exact a7⟩, fun m hm => ?_, fun q hq => ?_, fun r hr => ?_, fun r k hr hk => ?_, fun j hj => ?_⟩
  · have hb := b m hm
    have h2 : 0 ≤ wr s a i v 2 m ∧ wr s a i v 2 m ≤ 99 := by unfold wr; split <;> omega
    have h3 : 0 ≤ wr s a i v 3 m ∧ wr s a i v 3 m ≤ 5 := by unfold wr; split <;> omega
    omega
  · rw [o 5 0 (by omega)] at hq
    have hc := c q hq
    have h7 : 0 ≤ wr s a i v 7 q ∧ wr s a i v 7 q ≤ 3 := by unfold wr; split <;> omega
    rw [o 6 q (by omega), o 8 q (by omega), o 9 q (by omega)]
    simp only [l]
    exact ⟨hc.1, hc.2.1, h7.1, h7.2, hc.2.2.2.2⟩
  · rw [o 11 0 (by omega)] at hr
    rw [o 12 r (by omega), o 13 r (by omega), o 14 r (by omega), o 5 0 (by omega)]
    exact d r hr
  · rw [o 11 0 (by omega)] at hr hk
    rw [o 12 r (by omega), o 12 k (by omega)]
    exact e r k hr hk
  · rw [o 16 j (by omega), o 17 j (by omega), o 18 j (by omega), o 19 j (by omega), o 20 j (by omega), o 5 0 (by omega)]
    exact f j hj
theorem wf_clo {S s : Mem} {q : Nat} {st : Int} (hC : wfC S s) (h : 0 ≤ st ∧ st ≤ 3) : wfC S (clo s q st) := wf_cab (wf_w hC (by omega))
theorem wf_shp5 {S s : Mem} {m : Nat} (hC : wfC S s) (hm : (m : Int) < S 0 7) (h : 2 ≤ s 2 m) : wfC S (shp5 s m) := by
  have := hC.2.1 m hm
  exact wf_w (wf_w (wf_w hC (by omega)) (by omega)) (by omega)
theorem wf_hvk {S s : Mem} {q : Nat} {w : Int} (hC : wfC S s) : ∀ k : Nat, (k : Int) ≤ S 0 7 → wfC S (hvk s q w k)
  | 0, _ => hC
  | k + 1, hk => by
    have ih := wf_hvk (q := q) (w := w) hC k (by omega)
    have hb := ih.2.1 k (by omega)
    have h1 : wfC S (hv1 (hvk s q w k) q w k) := by
      unfold hv1
      split
      · exact ih
      · rename_i g
        have h3 : hvk s q w k 3 k ≠ 0 := by
          intro e
          apply g
          unfold vt
          rw [if_pos (Or.inl e)]
        exact wf_w ih (by rw [wp_of ⟨by omega, by omega⟩]; omega)
    have hb2 := h1.2.1 k (by omega)
    rw [hvk]
    unfold hv2
    split
    · rename_i g
      exact wf_w (wf_w h1 (by rw [wp_of ⟨by omega, by omega⟩]; omega)) (by omega)
    · exact h1
theorem wf_hvo {S s : Mem} {q : Nat} (hS : wfS S) (hC : wfC S s) : wfC S (hvo S s q) := by
  have := wf_n hS
  unfold hvo
  exact wf_w (wf_clo (wf_hvk hC _ (by omega)) (by split <;> omega)) (by omega)
theorem wf_reb {S s : Mem} {h : Nat} (hS : wfS S) (hC : wfC S s) (hh : (h : Int) < S 0 0) (ho : s 16 h ≠ -1) (h20 : s 20 h ≤ 0) (hf : 0 < frm S s) : wfC S (reb s h) := by
  obtain ⟨n1, n12, c1, c4⟩ := wf_n hS
  have key : wfC S (wr s 20 h 1) := by
    obtain ⟨⟨a1, a2, a3, a4, a5, a6, a7⟩, b, c, d, e, f⟩ := hC
    have o : ∀ r j, r ≠ 20 → wr s 20 h 1 r j = s r j := fun r j hr => wr_na hr
    have l : ∀ m q, ln (wr s 20 h 1) m q = ln s m q := fun m q => wr_na (by decide)
    have hh4 : h < 4 := by omega
    have hf0 := f h hh4
    have hm : mrs (wr s 20 h 1) = mrs s + 1 := by
      rw [mrs_4, mrs_4]
      unfold wr
      rcases (by omega : h = 0 ∨ h = 1 ∨ h = 2 ∨ h = 3) with g | g | g | g <;> subst g <;> simp <;> omega
    refine ⟨⟨by rw [o 5 0 (by decide)]; exact a1, by rw [o 5 0 (by decide)]; exact a2, by rw [o 11 0 (by decide)]; exact a3, by rw [o 11 0 (by decide)]; exact a4, by rw [o 0 6 (by decide)]; exact a5, by rw [o 0 6 (by decide)]; exact a6, by rw [hm]; unfold frm at hf; omega⟩, fun m hm => ?_, fun q hq => ?_, fun r hr => ?_, fun r k hr hk => ?_, fun j hj => ?_⟩
    · rw [o 2 m (by decide), o 3 m (by decide)]; exact b m hm
    · rw [o 5 0 (by decide)] at hq
      rw [o 6 q (by decide), o 7 q (by decide), o 8 q (by decide), o 9 q (by decide)]
      simp only [l]
      exact c q hq
    · rw [o 11 0 (by decide)] at hr
      rw [o 12 r (by decide), o 13 r (by decide), o 14 r (by decide), o 5 0 (by decide)]
      exact d r hr
    · rw [o 11 0 (by decide)] at hr hk
      rw [o 12 r (by decide), o 12 k (by decide)]
      exact e r k hr hk
    · rw [o 16 j (by decide), o 17 j (by decide), o 18 j (by decide), o 19 j (by decide), o 5 0 (by decide)]
      have hf1 := f j hj
      by_cases g : j = h
      · subst g; rw [wr_s]; omega
      · rw [wr_ni g]; exact hf1
  unfold reb
  exact wf_w key (by omega)
theorem wf_rad {S s : Mem} {m q : Nat} {d : Int} (hS : wfS S) (hC : wfC S s) (hm : (m : Int) < S 0 7) (hq : (q : Int) < s 5 0) (hd : d = 1 ∨ d = -1) (hp : plc s m = -1) : wfC S (rad s m q d) := by
  obtain ⟨n1, n12, c1, c4⟩ := wf_n hS
  obtain ⟨⟨a1, a2, a3, a4, a5, a6, a7⟩, b, c, dd, e, f⟩ := hC
  obtain ⟨n, hn⟩ := Int.eq_ofNat_of_zero_le a3
  have en : (s 11 0).toNat = n := by omega
  have o : ∀ r j, r < 11 ∨ 14 < r → rad s m q d r j = s r j := fun r j hr => by unfold rad; rw [wr_na (by omega), wr_na (by omega), wr_na (by omega), wr_na (by omega)]
  have l : ∀ m' q', ln (rad s m q d) m' q' = ln s m' q' := fun _ _ => o _ _ (by decide)
  have e11 : rad s m q d 11 0 = s 11 0 + 1 := wr_s _ _ _ _
  have e12 : ∀ j, rad s m q d 12 j = if j = n then (m : Int) else s 12 j := fun j => by unfold rad wr; rw [en]; by_cases g : j = n <;> simp [g]
  have e13 : ∀ j, rad s m q d 13 j = if j = n then (q : Int) else s 13 j := fun j => by unfold rad wr; rw [en]; by_cases g : j = n <;> simp [g]
  have e14 : ∀ j, rad s m q d 14 j = if j = n then d else s 14 j := fun j => by unfold rad wr; rw [en]; by_cases g : j = n <;> simp [g]
  have hno : ∀ r : Nat, r < n → s 12 r ≠ m := fun r hr => fnd_no hp r (by omega)
  have hlt : s 11 0 < S 0 7 := by
    have hinj : ((List.range n).map (fun r => (s 12 r).toNat)).Nodup := by
      unfold List.Nodup
      rw [List.pairwise_map]
      refine List.Pairwise.imp_of_mem ?_ List.pairwise_lt_range
      intro i j hi hj hij w
      have hi2 := List.mem_range.mp hi
      have hj2 := List.mem_range.mp hj
      have d1 := dd i (by omega)
      have d2 := dd j (by omega)
      have := e i j (by omega) (by omega) (by omega)
      omega
    have hsub : (m :: (List.range n).map (fun r => (s 12 r).toNat)).Nodup := by
      rw [List.nodup_cons]
      refine ⟨fun w => ?_, hinj⟩
      obtain ⟨r, hr, hr2⟩ := List.mem_map.mp w
      have hr3 := List.mem_range.mp hr
      have d1 := dd r (by omega)
      exact hno r hr3 (by omega)
    have hle := List.Nodup.length_le_of_subset (l₁ := m :: (List.range n).map (fun r => (s 12 r).toNat)) (l₂ := List.range (S 0 7).toNat) hsub (by
      intro x hx
      rw [List.mem_range]
      rcases List.mem_cons.mp hx with h | h
      · omega
      · obtain ⟨r, hr, hr2⟩ := List.mem_map.mp h
        have hr3 := List.mem_range.mp hr
        have d1 := dd r (by omega)
        omega)
    simp at hle
    omega
  refine ⟨⟨by rw [o 5 0 (by decide)]; exact a1, by rw [o 5 0 (by decide)]; exact a2, by omega, by omega, by rw [o 0 6 (by decide)]; exact a5, by rw [o 0 6 (by decide)]; exact a6, by rw [mrs_c (fun j _ => o 20 j (by decide))]; exact a7⟩, fun x hx => ?_, fun x hx => ?_, fun r hr => ?_, fun r k hr hk => ?_, fun j hj => ?_⟩
  · rw [o 2 x (by decide), o 3 x (by decide)]; exact b x hx
  · rw [o 5 0 (by decide)] at hx
    rw [o 6 x (by decide), o 7 x (by decide), o 8 x (by decide), o 9 x (by decide)]
    simp only [l]
    exact c x hx
  · rw [e12, e13, e14, o 5 0 (by decide)]
    by_cases g : r = n
    · rw [if_pos g, if_pos g, if_pos g]; omega
    · rw [if_neg g, if_neg g, if_neg g]; exact dd r (by omega)
  · rw [e12, e12]
    by_cases g : r = n <;> by_cases g2 : k = n
    · intro _; omega
    · rw [if_pos g, if_neg g2]; intro w; exact absurd w.symm (hno k (by omega))
    · rw [if_neg g, if_pos g2]; intro w; exact absurd w (hno r (by omega))
    · rw [if_neg g, if_neg g2]; exact e r k (by omega) (by omega)
  · rw [o 16 j (by decide), o 17 j (by decide), o 18 j (by decide), o 19 j (by decide), o 20 j (by decide), o 5 0 (by decide)]
    exact f j hj

theorem ln_amk {S s : Mem} {q : Nat} {x : Int} {m y : Nat} (hm : m < 12) : ∀ k, k ≤ 12 → ln (amk S s q x k) m y = if y = q ∧ m < k then clp (5 - ((S 3 m - x).natAbs : Int)) else ln s m y
  | 0, _ => by rw [if_neg (by omega)]; rfl
  | k + 1, hk => by
    rw [amk, ln_sln hm (by omega), ln_amk hm k (by omega)]
    by_cases g : y = q ∧ m = k
    · rw [if_pos g, if_pos (by omega), g.2]
    · rw [if_neg g]
      by_cases g2 : y = q ∧ m < k
      · rw [if_pos g2, if_pos (by omega)]
      · rw [if_neg g2, if_neg (by omega)]
theorem amo_o {S s : Mem} {m x : Int} {r j : Nat} (h : r ≠ 5 ∧ r ≠ 6 ∧ r ≠ 7 ∧ r ≠ 8 ∧ r ≠ 9 ∧ r ≠ 10) : amo S s m x r j = s r j := by
  unfold amo am0
  rw [wr_na (by omega), amk_o (by omega), wr_na (by omega), wr_na (by omega), wr_na (by omega), wr_na (by omega)]
theorem amo_5 {S s : Mem} {m x : Int} : amo S s m x 5 0 = s 5 0 + 1 := wr_s _ _ _ _
theorem amo_q {S s : Mem} {m x : Int} {r j : Nat} (h : r = 6 ∨ r = 7 ∨ r = 8 ∨ r = 9) : amo S s m x r j = if j = (s 5 0).toNat then (if r = 6 then m else 0) else s r j := by
  unfold amo
  rw [wr_na (by omega), amk_o (by omega)]
  unfold am0 wr
  rcases h with e | e | e | e <;> subst e <;> by_cases g : j = (s 5 0).toNat <;> simp [g]
theorem amo_l {S s : Mem} {m x : Int} {i y : Nat} (hi : (i : Int) < S 0 7) (h12 : S 0 7 ≤ 12) : ln (amo S s m x) i y = if y = (s 5 0).toNat then clp (5 - ((S 3 i - x).natAbs : Int)) else ln s i y := by
  have e : ln (amo S s m x) i y = ln (amk S (am0 s m (s 5 0).toNat) (s 5 0).toNat x (S 0 7).toNat) i y := by unfold ln amo; rw [wr_na (by decide)]
  rw [e, ln_amk (by omega) _ (by omega)]
  by_cases g : y = (s 5 0).toNat
  · rw [if_pos g, if_pos ⟨g, by omega⟩]
  · rw [if_neg g, if_neg (fun w => g w.1)]
    unfold ln am0
    rw [wr_na (by decide), wr_na (by decide), wr_na (by decide), wr_na (by decide)]
theorem wf_amo {S s : Mem} {m x : Int} (hC : wfC S s) (h12 : S 0 7 ≤ 12) (h16 : s 5 0 < 16) (hm : 0 ≤ m ∧ m < S 0 7) : wfC S (amo S s m x) := by
  obtain ⟨⟨a1, a2, a3, a4, a5, a6, a7⟩, b, c, d, e, f⟩ := hC
  have e5 : amo S s m x 5 0 = s 5 0 + 1 := amo_5
  have o : ∀ r i, r ≠ 5 ∧ r ≠ 6 ∧ r ≠ 7 ∧ r ≠ 8 ∧ r ≠ 9 ∧ r ≠ 10 → amo S s m x r i = s r i := fun r i h => amo_o h
  refine ⟨⟨by omega, by omega, by rw [o 11 0 (by decide)]; exact a3, by rw [o 11 0 (by decide)]; exact a4, by rw [o 0 6 (by decide)]; exact a5, by rw [o 0 6 (by decide)]; exact a6, by rw [mrs_c (fun j _ => o 20 j (by decide))]; exact a7⟩, fun y hy => ?_, fun q hq => ?_, fun r hr => ?_, fun r k hr hk => ?_, fun i hi => ?_⟩
  · rw [o 2 y (by decide), o 3 y (by decide)]; exact b y hy
  · rw [amo_q (r := 6) (by decide), amo_q (r := 7) (by decide), amo_q (r := 8) (by decide), amo_q (r := 9) (by decide)]
    by_cases g : q = (s 5 0).toNat
    · rw [if_pos g, if_pos g, if_pos g, if_pos g, if_pos rfl, if_neg (by decide), if_neg (by decide), if_neg (by decide)]
      refine ⟨hm.1, hm.2, by decide, by decide, by decide, by decide, by decide, by decide, fun i hi => ?_⟩
      rw [amo_l hi h12, if_pos g]
      exact clp_b _
    · rw [if_neg g, if_neg g, if_neg g, if_neg g]
      have hc := c q (by omega)
      refine ⟨hc.1, hc.2.1, hc.2.2.1, hc.2.2.2.1, hc.2.2.2.2.1, hc.2.2.2.2.2.1, hc.2.2.2.2.2.2.1, hc.2.2.2.2.2.2.2.1, fun i hi => ?_⟩
      rw [amo_l hi h12, if_neg g]
      exact hc.2.2.2.2.2.2.2.2 i hi
  · rw [o 11 0 (by decide)] at hr
    rw [o 12 r (by decide), o 13 r (by decide), o 14 r (by decide)]
    have := d r hr
    omega
  · rw [o 11 0 (by decide)] at hr hk
    rw [o 12 r (by decide), o 12 k (by decide)]
    exact e r k hr hk
  · rw [o 16 i (by decide), o 17 i (by decide), o 18 i (by decide), o 19 i (by decide), o 20 i (by decide)]
    have := f i hi
    omega
theorem mvr_w0 {s : Mem} {i e : Nat} {v : Int} : mvr (wr s 0 8 v) i e = wr (mvr s i e) 0 8 v := by
  have h : ∀ r, 12 ≤ r → wr s 0 8 v r i = s r i := fun r hr => wr_na (by omega)
  funext r j
  unfold mvr
  rw [h 12 (by decide), h 13 (by decide), h 14 (by decide)]
  unfold wr
  by_cases g : r = 0
  · subst g; simp
  · simp [g]
theorem cab_k_w0 {s : Mem} {q v : Int} : ∀ k, cab_k (wr s 0 8 v) q k = (wr (cab_k s q k).1 0 8 v, (cab_k s q k).2)
  | 0 => rfl
  | k + 1 => by
    rw [cab_k, cab_k_w0 k, cab_k]
    show (if wr (cab_k s q k).1 0 8 v 13 k ≠ q then _ else _) = _
    rw [wr_na (by decide : (13 : Nat) ≠ 0)]
    by_cases g : (cab_k s q k).1 13 k ≠ q
    · rw [if_pos g, if_pos g]
      show (mvr (wr (cab_k s q k).1 0 8 v) k (cab_k s q k).2, _) = _
      rw [mvr_w0]
    · rw [if_neg g, if_neg g]
theorem cab_w0 {s : Mem} {q v : Int} : cab (wr s 0 8 v) q = wr (cab s q) 0 8 v := by
  unfold cab
  rw [wr_na (by decide : (11 : Nat) ≠ 0), cab_k_w0]
  funext r j
  show wr (wr (cab_k s q (s 11 0).toNat).1 0 8 v) 11 0 _ r j = _
  unfold wr
  by_cases g : r = 0
  · subst g; simp
  · simp [g]
