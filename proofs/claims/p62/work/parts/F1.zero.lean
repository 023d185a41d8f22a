/-! NO CONTRADICTION: what holds of every chamber -/
def mny (s : Mem) (n : Nat) : Int := s 0 7 + 2 * s 0 10 + smf (fun m => s 2 m) n
def zro (S s : Mem) : Prop :=
  iI (mny s (S 0 7).toNat) = iI (smf (fun m => S 4 m) (S 0 7).toNat) ∧ iI (s 0 8) = iI (cdv s (s 5 0).toNat) ∧
  (∀ r h : Nat, (r : Int) < s 11 0 → h < 4 → s 12 r ≠ s 16 h) ∧ (∀ r : Nat, (r : Int) < s 11 0 → s 7 (s 13 r).toNat = 0)
theorem wp_sub0 {a b : Int} (h : iI a = iI b) : wp (a - b) = 0 := by
  unfold wp
  rw [← iI_sub, h, Int32.sub_self]
  rfl
theorem smf_z {f : Nat → Int} : ∀ {n : Nat}, (∀ k, k < n → f k = 0) → smf f n = 0
  | 0, _ => rfl
  | n + 1, h => by rw [smf, smf_z (fun k hk => h k (by omega)), h n (by omega)]; rfl
theorem ccn_e (s : Mem) : ∀ n : Nat, ccn s n = mny s n
  | 0 => by show s 0 7 + 2 * s 0 10 = s 0 7 + 2 * s 0 10 + 0; omega
  | n + 1 => by
    show ccn s n + s 2 n = s 0 7 + 2 * s 0 10 + (smf (fun m => s 2 m) n + s 2 n)
    rw [ccn_e s n]
    unfold mny
    omega
theorem zro_ctr {S s : Mem} (hC : wfC S s) (hz : zro S s) : ctr S s = 0 := by
  obtain ⟨z1, z2, z3, z4⟩ := hz
  unfold ctr
  rw [ccn_e, wp_sub0 z1.symm, wp_sub0 z2]
  have h3 : cdd s (S 0 7).toNat = 0 := by
    refine smf_z (fun m _ => ?_)
    show (if plc s m ≠ -1 ∧ tkn s m ≠ -1 then (1 : Int) else 0) = 0
    rw [if_neg]
    intro w
    rcases fnd_ge (p := fun r => s 12 r = m) (n := (s 11 0).toNat) with g | ⟨r, g1, g2, g3, -⟩
    · exact w.1 g
    · rcases fnd_ge (p := fun h => s 16 h = m) (n := 4) with k | ⟨h, k1, k2, k3, -⟩
      · exact w.2 k
      · exact z3 r h (by omega) k1 (g3.trans k3.symm)
  have h4 : cds s (s 11 0).toNat = 0 := by
    refine smf_z (fun r hr => ?_)
    show (if opn s (s 13 r) then (0 : Int) else 1) = 0
    have hd := hC.2.2.2.1 r (by omega)
    rw [if_pos ⟨hd.2.2.1, hd.2.2.2.1, z4 r (by omega)⟩]
  rw [h3, h4]
  rfl
theorem smf_up {f g : Nat → Int} {k : Nat} (h : ∀ j, j ≠ k → g j = f j) : ∀ {n : Nat}, smf g n = smf f n + (if k < n then g k - f k else 0)
  | 0 => by rw [if_neg (by omega)]; rfl
  | n + 1 => by
    rw [smf, smf, smf_up h (n := n)]
    by_cases e : n = k
    · subst e
      rw [if_neg (by omega), if_pos (by omega)]
      omega
    · rw [h n e]
      by_cases g2 : k < n
      · rw [if_pos g2, if_pos (by omega)]; omega
      · rw [if_neg g2, if_neg (by omega)]; omega
/-- the same in all that zro reads -/
theorem zro_c {S s t : Mem} (h : zro S s) (a : t 0 7 = s 0 7 ∧ t 0 10 = s 0 10 ∧ t 0 8 = s 0 8 ∧ t 5 0 = s 5 0 ∧ t 11 0 = s 11 0) (b : ∀ m : Nat, m < (S 0 7).toNat → t 2 m = s 2 m) (c : ∀ q : Nat, q < (s 5 0).toNat → t 7 q = s 7 q) (d : ∀ r : Nat, (r : Int) < s 11 0 → t 12 r = s 12 r ∧ t 13 r = s 13 r ∧ t 7 (s 13 r).toNat = s 7 (s 13 r).toNat) (e : ∀ i : Nat, i < 4 → t 16 i = s 16 i ∨ t 16 i = -1) (hC : wfC S s) : zro S t := by
  obtain ⟨z1, z2, z3, z4⟩ := h
  obtain ⟨a1, a2, a3, a4, a5⟩ := a
  refine ⟨?_, ?_, fun r i hr hi => ?_, fun r hr => ?_⟩
  · unfold mny at z1 ⊢
    rw [a1, a2, smf_cong (f := fun m => t 2 m) (g := fun m => s 2 m) (fun k hk => b k hk)]
    exact z1
  · rw [a3, a4]
    have e9 : cdv t (s 5 0).toNat = cdv s (s 5 0).toNat := smf_cong (fun k hk => by show (if t 7 k = 1 ∨ t 7 k = 2 then (1 : Int) else 0) = _; rw [c k hk])
    rw [e9]
    exact z2
  · rw [a5] at hr
    rw [(d r hr).1]
    rcases e i hi with g | g
    · rw [g]; exact z3 r i hr hi
    · rw [g]
      have := (hC.2.2.2.1 r hr).1
      omega
  · rw [a5] at hr
    rw [(d r hr).2.1, (d r hr).2.2]
    exact z4 r hr
theorem zro_eq {S s t : Mem} (hS : wfS S) (hC : wfC S s) (h : zro S s) (g : eqC t s) : zro S t := by
  have n1 := wf_n hS
  have r1 := wf_r hS hC
  obtain ⟨⟨g1, g2, g3⟩, g4, g5, g6, g7⟩ := g
  refine zro_c h ⟨g3 7 (by decide) (by decide), g3 10 (by decide) (by decide), g3 8 (by decide) (by decide), g1, g2⟩ (fun m hm => (g4 m (by omega)).1) (fun q hq => (g5 q (by omega)).2.1) (fun r hr => ⟨(g4 r (by omega)).2.2.2.1, (g4 r (by omega)).2.2.2.2.1, ?_⟩) (fun i hi => Or.inl (g7 i hi).1) hC
  have hd := hC.2.2.2.1 r hr
  exact (g5 _ (by omega)).2.1
theorem zro_pm1 {S s : Mem} (hC : wfC S s) (h : zro S s) : zro S (pm1 S s) := by
  have o : ∀ r j, r ≠ 8 → (r ≠ 0 ∨ j ≠ 5) → pm1 S s r j = s r j := fun r j h1 h2 => by
    unfold pm1
    (try dsimp only)
    split
    · rw [dry_o h1]; exact wr_n (fun w => by omega)
    · exact wr_n (fun w => by omega)
  exact zro_c h ⟨o _ _ (by decide) (by decide), o _ _ (by decide) (by decide), o _ _ (by decide) (by decide), o _ _ (by decide) (by decide), o _ _ (by decide) (by decide)⟩ (fun m _ => o _ _ (by decide) (by omega)) (fun q _ => o _ _ (by decide) (by omega)) (fun r _ => ⟨o _ _ (by decide) (by omega), o _ _ (by decide) (by omega), o _ _ (by decide) (by omega)⟩) (fun i _ => Or.inl (o _ _ (by decide) (by omega))) hC
theorem zro_pek {S s : Mem} (hS : wfS S) (hC : wfC S s) (h : zro S s) : ∀ k : Nat, (k : Int) ≤ S 0 0 → zro S (pek S s k).1
  | 0, _ => h
  | k + 1, hk => by
    have ih := zro_pek hS hC h k (by omega)
    have wf := (wf_pek hS hC k (by omega)).1
    have h4 : k < 4 := by have := wf_n hS; omega
    rw [pek]
    by_cases g : (pek S s k).1 16 k = -1
    · rw [if_pos g]; exact ih
    · rw [if_neg g]
      have o : ∀ r j, r ≠ 19 → wr (pek S s k).1 19 k (wp ((pek S s k).1 19 k - 1)) r j = (pek S s k).1 r j := fun r j hr => wr_na hr
      split
      · show zro S (esp S (wr (pek S s k).1 19 k (wp ((pek S s k).1 19 k - 1))) k)
        have p : ∀ r j, r ≠ 8 ∧ r ≠ 10 ∧ r ≠ 16 ∧ r ≠ 19 ∧ r ≠ 20 → esp S (wr (pek S s k).1 19 k (wp ((pek S s k).1 19 k - 1))) k r j = (pek S s k).1 r j := fun r j hr => by rw [esp_o hr, o r j (by omega)]
        refine zro_c ih ⟨p _ _ (by decide), p _ _ (by decide), p _ _ (by decide), p _ _ (by decide), p _ _ (by decide)⟩ (fun m _ => p _ _ (by decide)) (fun q _ => p _ _ (by decide)) (fun r _ => ⟨p _ _ (by decide), p _ _ (by decide), p _ _ (by decide)⟩) (fun i _ => ?_) wf
        rw [esp_h (Or.inl rfl), o 16 i (by decide)]
        split
        · exact Or.inr (if_pos rfl)
        · exact Or.inl rfl
      · show zro S (wr (pek S s k).1 19 k (wp ((pek S s k).1 19 k - 1)))
        exact zro_c ih ⟨o _ _ (by decide), o _ _ (by decide), o _ _ (by decide), o _ _ (by decide), o _ _ (by decide)⟩ (fun m _ => o _ _ (by decide)) (fun q _ => o _ _ (by decide)) (fun r _ => ⟨o _ _ (by decide), o _ _ (by decide), o _ _ (by decide)⟩) (fun i _ => Or.inl (o _ _ (by decide))) wf
theorem zro_spk {S s : Mem} {h p : Nat} (hC : wfC S s) (hz : zro S s) (hp : (p : Int) < s 11 0) : zro S (spk S s h p) := by
  obtain ⟨z1, z2, z3, z4⟩ := hz
  have hd := hC.2.2.2.1 p hp
  have o : ∀ r j, (r < 4 ∨ (4 < r ∧ r < 9) ∨ r = 10 ∨ r = 15 ∨ 19 < r) → spk S s h p r j = s r j := fun r j hr => spk_o hr
  have e11 : spk S s h p 11 0 = s 11 0 - 1 := by rw [spk_r (by decide), rmv_11]
  have e12 : ∀ a j : Nat, 12 ≤ a ∧ a ≤ 14 → (j : Int) < s 11 0 - 1 → spk S s h p a j = if p ≤ j then s a (j + 1) else s a j := fun a j ha hj => by rw [spk_r (by omega), rmv_c ha (by omega)]
  refine ⟨?_, ?_, fun r i hr hi => ?_, fun r hr => ?_⟩
  · unfold mny at z1 ⊢
    rw [o 0 7 (by omega), o 0 10 (by omega), smf_cong (f := fun m => spk S s h p 2 m) (g := fun m => s 2 m) (fun k _ => o 2 k (by omega))]
    exact z1
  · rw [o 0 8 (by omega), o 5 0 (by omega)]
    have e9 : cdv (spk S s h p) (s 5 0).toNat = cdv s (s 5 0).toNat := smf_cong (fun k hk => by show (if spk S s h p 7 k = 1 ∨ spk S s h p 7 k = 2 then (1 : Int) else 0) = _; rw [o 7 k (by omega)])
    rw [e9]; exact z2
  · rw [e11] at hr
    rw [e12 12 r (by decide) hr, spk_h (by decide)]
    by_cases g : i = h
    · rw [if_pos g, if_pos rfl]
      by_cases g2 : p ≤ r
      · rw [if_pos g2]
        intro w
        have := hC.2.2.2.2.1 (r + 1) p (by omega) hp (by omega)
        omega
      · rw [if_neg g2]
        intro w
        have := hC.2.2.2.2.1 r p (by omega) hp (by omega)
        omega
    · rw [if_neg g]
      by_cases g2 : p ≤ r
      · rw [if_pos g2]; exact z3 (r + 1) i (by omega) hi
      · rw [if_neg g2]; exact z3 r i (by omega) hi
  · rw [e11] at hr
    rw [o 7 _ (by omega), e12 13 r (by decide) hr]
    by_cases g2 : p ≤ r
    · rw [if_pos g2]; exact z4 (r + 1) (by omega)
    · rw [if_neg g2]; exact z4 r (by omega)
theorem zro_pfk {S s : Mem} (hS : wfS S) (hC : wfC S s) (hz : zro S s) : ∀ k : Nat, (k : Int) ≤ S 0 0 → zro S (pfk S s k)
  | 0, _ => hz
  | k + 1, hk => by
    have ih := zro_pfk hS hC hz k (by omega)
    have wf := wf_pfk hS hC k (by omega)
    rw [pfk]
    split
    · rename_i g
      have := fsl_b (S := S) (s := pfk S s k) (rk := pfk S s k 0 6) wf.1.2.2.1
      exact zro_spk wf ih (by omega)
    · exact ih
theorem zro_pmn {S s : Mem} (hS : wfS S) (hC : wfC S s) (hz : zro S s) : zro S (pmn S s) := by
  have n1 := wf_n hS
  exact zro_pfk hS (wf_pek hS (wf_pm1 hC) _ (by omega)).1 (zro_pek hS (wf_pm1 hC) (zro_pm1 hC hz) _ (by omega)) _ (by omega)
theorem cab_mem {S s : Mem} {q : Int} (hC : wfC S s) {r : Nat} (hr : (r : Int) < cab s q 11 0) : ∃ k : Nat, (k : Int) < s 11 0 ∧ cab s q 12 r = s 12 k ∧ cab s q 13 r = s 13 k ∧ cab s q 14 r = s 14 k ∧ s 13 k ≠ q := by
  have h1 : (cls (cab s q) (cab s q 11 0).toNat)[r]? = some (cab s q 12 r, cab s q 13 r, cab s q 14 r) := cls_g (by omega)
  have h2 := List.mem_of_getElem? h1
  rw [cls_cab] at h2
  obtain ⟨h3, h4⟩ := List.mem_filter.mp h2
  obtain ⟨k, hk, he⟩ := List.mem_map.mp h3
  have hk := List.mem_range.mp hk
  have e1 : s 12 k = cab s q 12 r := congrArg Prod.fst he
  have e2 : s 13 k = cab s q 13 r := congrArg (fun t => t.2.1) he
  have e3 : s 14 k = cab s q 14 r := congrArg (fun t => t.2.2) he
  refine ⟨k, by omega, e1.symm, e2.symm, e3.symm, ?_⟩
  rw [e2]
  exact of_decide_eq_true h4
/-- a motion closed, its requests taken out -/
theorem zro_clo {S s : Mem} {q : Nat} {st v : Int} (hS : wfS S) (hC : wfC S s) (hz : zro S s) (hq : (q : Int) < s 5 0) (h0 : s 7 q = 0) (hst : st = 1 ∨ st = 2 ∨ st = 3) (hv : iI v = iI (s 0 8 + (if st = 3 then 0 else 1))) : zro S (wr (clo s q st) 0 8 v) := by
  obtain ⟨z1, z2, z3, z4⟩ := hz
  have o : ∀ a j, (a < 11 ∨ 14 < a) → (a ≠ 0 ∨ j ≠ 8) → a ≠ 7 → wr (clo s q st) 0 8 v a j = s a j := fun a j ha hb hc => by
    rw [wr_n (by omega)]
    unfold clo
    rw [cab_o ha, wr_na hc]
  have e7 : ∀ j, wr (clo s q st) 0 8 v 7 j = if j = q then st else s 7 j := fun j => by
    rw [wr_na (by decide)]
    unfold clo
    rw [cab_o (by decide)]
    by_cases g : j = q
    · subst g; rw [wr_s, if_pos rfl]
    · rw [wr_ni g, if_neg g]
  have hCw : wfC S (wr s 7 q st) := wf_w hC (by omega)
  have mem : ∀ r : Nat, (r : Int) < wr (clo s q st) 0 8 v 11 0 → ∃ k : Nat, (k : Int) < s 11 0 ∧ wr (clo s q st) 0 8 v 12 r = s 12 k ∧ wr (clo s q st) 0 8 v 13 r = s 13 k ∧ s 13 k ≠ q := fun r hr => by
    rw [wr_na (by decide)] at hr
    unfold clo at hr
    obtain ⟨k, k1, k2, k3, k4, k5⟩ := cab_mem hCw hr
    refine ⟨k, by rw [wr_na (by decide)] at k1; exact k1, ?_, ?_, by rw [wr_na (by decide)] at k5; exact k5⟩
    · rw [wr_na (by decide)]; unfold clo; rw [k2, wr_na (by decide)]
    · rw [wr_na (by decide)]; unfold clo; rw [k3, wr_na (by decide)]
  refine ⟨?_, ?_, fun r i hr hi => ?_, fun r hr => ?_⟩
  · unfold mny at z1 ⊢
    rw [o 0 7 (by omega) (by omega) (by omega), o 0 10 (by omega) (by omega) (by omega), smf_cong (f := fun m => wr (clo s q st) 0 8 v 2 m) (g := fun m => s 2 m) (fun k _ => o 2 k (by omega) (by omega) (by omega))]
    exact z1
  · rw [wr_s, o 5 0 (by omega) (by omega) (by omega), hv, ← iI_add, z2, iI_add]
    have h9 := smf_up (f := fun q => if s 7 q = 1 ∨ s 7 q = 2 then (1 : Int) else 0) (g := fun q' => if wr (clo s q st) 0 8 v 7 q' = 1 ∨ wr (clo s q st) 0 8 v 7 q' = 2 then (1 : Int) else 0) (k := q) (fun j hj => by show (if _ then (1 : Int) else 0) = _; rw [e7, if_neg hj]) (n := (s 5 0).toNat)
    (try dsimp only at h9)
    rw [e7, if_pos rfl, if_pos (by omega), h0] at h9
    have e9 : cdv (wr (clo s q st) 0 8 v) (s 5 0).toNat = cdv s (s 5 0).toNat + (if st = 3 then 0 else 1) := by
      unfold cdv
      rw [h9]
      rcases hst with g | g | g <;> subst g <;> rfl
    rw [e9]
  · obtain ⟨k, k1, k2, k3, k4⟩ := mem r hr
    rw [k2, o 16 i (by omega) (by omega) (by omega)]
    exact z3 k i k1 hi
  · obtain ⟨k, k1, k2, k3, k4⟩ := mem r hr
    have hd := hC.2.2.2.1 k k1
    rw [k3, e7, if_neg (by omega)]
    exact z4 k k1
theorem zro_wd {S s : Mem} {q : Nat} (hS : wfS S) (hC : wfC S s) (hz : zro S s) (hq : (q : Int) < s 5 0) (h0 : s 7 q = 0) : zro S (clo s q 3) := by
  have h := zro_clo (st := 3) (v := s 0 8) hS hC hz hq h0 (by omega) (by rw [if_pos rfl]; congr 1; omega)
  have e : wr (clo s q 3) 0 8 (s 0 8) = clo s q 3 := wr_same (by unfold clo; rw [cab_o (by decide), wr_na (by decide)])
  rw [e] at h
  exact h
theorem hvk_m {S s : Mem} {q : Nat} {w : Int} (hC : wfC S s) : ∀ k : Nat, (k : Int) ≤ S 0 7 → ∀ n : Nat, (k : Int) ≤ n → iI (mny (hvk s q w k) n) = iI (mny s n)
  | 0, _, _, _ => rfl
  | k + 1, hk, n, hn => by
    have ih := hvk_m (q := q) (w := w) hC k (by omega) n (by omega)
    have wf := wf_hvk (q := q) (w := w) hC k (by omega)
    rw [← ih, hvk]
    generalize hvk s q w k = t at wf
    have e1 : mny (hv1 t q w k) n = mny t n := by
      unfold hv1
      split
      · rfl
      · unfold mny
        rw [wr_na (by decide), wr_na (by decide), smf_cong (f := fun m => wr t 3 k (wp (t 3 k - 1)) 2 m) (g := fun m => t 2 m) (fun j _ => wr_na (by decide))]
    have e2 : hv1 t q w k 2 k = t 2 k := by
      unfold hv1
      split
      · rfl
      · exact wr_na (by decide)
    rw [← e1]
    generalize hv1 t q w k = u at e2
    unfold hv2
    split
    · rename_i g
      have hb := wf.2.1 k (by omega)
      have ew : wp (u 2 k - 1) = u 2 k - 1 := wp_of ⟨by omega, by omega⟩
      have h9 := smf_up (f := fun m => u 2 m) (g := fun m => wr (wr u 2 k (wp (u 2 k - 1))) 0 7 (wp (u 0 7 + 1)) 2 m) (k := k) (fun j hj => by show wr (wr u 2 k _) 0 7 _ 2 j = u 2 j; rw [wr_na (by decide), wr_ni hj]) (n := n)
      unfold mny
      rw [h9, if_pos (by omega), wr_s, wr_ni (show (10 : Nat) ≠ 7 by decide), wr_na (show (0 : Nat) ≠ 2 by decide)]
      rw [show wr (wr u 2 k (wp (u 2 k - 1))) 0 7 (wp (u 0 7 + 1)) 2 k = u 2 k - 1 by rw [wr_na (by decide), wr_s, ew]]
      rw [show wp (u 0 7 + 1) + 2 * u 0 10 + (smf (fun m => u 2 m) n + (u 2 k - 1 - u 2 k)) = wp (u 0 7 + 1) + (2 * u 0 10 + smf (fun m => u 2 m) n - 1) by omega, ← iI_add, iI_wp, iI_add]
      congr 1
      omega
    · rfl
theorem zro_hvk {S s : Mem} {q : Nat} {w : Int} (hS : wfS S) (hC : wfC S s) (hz : zro S s) : zro S (hvk s q w (S 0 7).toNat) := by
  have n1 := wf_n hS
  obtain ⟨z1, z2, z3, z4⟩ := hz
  have o : ∀ r j, r ≠ 0 ∧ r ≠ 2 ∧ r ≠ 3 → hvk s q w (S 0 7).toNat r j = s r j := fun r j h => hvk_5 r j h _
  have e8 : ∀ k, hvk s q w k 0 8 = s 0 8 := by
    intro k
    induction k with
    | zero => rfl
    | succ k ih =>
      rw [hvk]
      unfold hv2 hv1
      (repeat' split) <;> (try rw [wr_ni (by decide)]) <;> (try rw [wr_na (by decide)]) <;> (try rw [wr_na (by decide)]) <;> exact ih
  refine ⟨?_, ?_, fun r i hr hi => ?_, fun r hr => ?_⟩
  · rw [hvk_m hC _ (by omega) _ (by omega)]; exact z1
  · rw [e8, o 5 0 (by decide)]
    have e9 : cdv (hvk s q w (S 0 7).toNat) (s 5 0).toNat = cdv s (s 5 0).toNat := smf_cong (fun k hk => by show (if hvk s q w (S 0 7).toNat 7 k = 1 ∨ hvk s q w (S 0 7).toNat 7 k = 2 then (1 : Int) else 0) = _; rw [o 7 k (by decide)])
    rw [e9]; exact z2
  · rw [o 11 0 (by decide)] at hr
    rw [o 12 r (by decide), o 16 i (by decide)]
    exact z3 r i hr hi
  · rw [o 11 0 (by decide)] at hr
    rw [o 7 _ (by decide), o 13 r (by decide)]
    exact z4 r hr
theorem zro_hvo {S s : Mem} {q : Nat} (hS : wfS S) (hC : wfC S s) (hz : zro S s) (hq : (q : Int) < s 5 0) (h0 : s 7 q = 0) : zro S (hvo S s q) := by
  have n1 := wf_n hS
  have o : ∀ r j, r ≠ 0 ∧ r ≠ 2 ∧ r ≠ 3 → hvk s q (if 0 < mgn S s q then 1 else -1) (S 0 7).toNat r j = s r j := fun r j h => hvk_5 r j h _
  unfold hvo
  (try dsimp only)
  refine zro_clo hS (wf_hvk hC _ (by omega)) (zro_hvk hS hC hz) (by rw [o 5 0 (by decide)]; exact hq) (by rw [o 7 q (by decide)]; exact h0) (by split <;> omega) ?_
  rw [iI_wp]
  unfold clo
  rw [cab_o (by decide), wr_na (by decide)]
  have h3 : (if 0 < mgn S s q then (1 : Int) else 2) ≠ 3 := by split <;> decide
  rw [if_neg h3]
theorem zro_amo {S s : Mem} {m x : Int} (hC : wfC S s) (hz : zro S s) (h16 : s 5 0 < 16) : zro S (amo S s m x) := by
  obtain ⟨z1, z2, z3, z4⟩ := hz
  have h0 := hC.1.1
  have o : ∀ r i, r ≠ 5 ∧ r ≠ 6 ∧ r ≠ 7 ∧ r ≠ 8 ∧ r ≠ 9 ∧ r ≠ 10 → amo S s m x r i = s r i := fun r i h => amo_o h
  have e7 : ∀ j, amo S s m x 7 j = if j = (s 5 0).toNat then 0 else s 7 j := fun j => by rw [amo_q (by decide), if_neg (show (7 : Nat) ≠ 6 by decide)]
  refine ⟨?_, ?_, fun r i hr hi => ?_, fun r hr => ?_⟩
  · unfold mny at z1 ⊢
    rw [o 0 7 (by decide), o 0 10 (by decide), smf_cong (f := fun k => amo S s m x 2 k) (g := fun m => s 2 m) (fun k _ => o 2 k (by decide))]
    exact z1
  · rw [o 0 8 (by decide), amo_5, z2, show (s 5 0 + 1).toNat = (s 5 0).toNat + 1 by omega]
    have e9 : cdv (amo S s m x) ((s 5 0).toNat + 1) = cdv s (s 5 0).toNat := by
      have e8 : smf (fun q => if amo S s m x 7 q = 1 ∨ amo S s m x 7 q = 2 then (1 : Int) else 0) (s 5 0).toNat = smf (fun q => if s 7 q = 1 ∨ s 7 q = 2 then (1 : Int) else 0) (s 5 0).toNat := smf_cong (fun k hk => by
        have hk' : ¬ k = (s 5 0).toNat := by omega
        show (if amo S s m x 7 k = 1 ∨ amo S s m x 7 k = 2 then (1 : Int) else 0) = _
        rw [e7, if_neg hk'])
      unfold cdv
      rw [smf, e8, e7, if_pos rfl, if_neg (by decide)]
      omega
    rw [e9]
  · rw [o 11 0 (by decide)] at hr
    rw [o 12 r (by decide), o 16 i (by decide)]
    exact z3 r i hr hi
  · rw [o 11 0 (by decide)] at hr
    rw [o 13 r (by decide), e7]
    split
    · rfl
    · exact z4 r hr
theorem zro_rad {S s : Mem} {m q : Nat} {d : Int} (hC : wfC S s) (hz : zro S s) (h7 : s 7 q = 0) (ht : tkn s m = -1) : zro S (rad s m q d) := by
  obtain ⟨z1, z2, z3, z4⟩ := hz
  have h11 := hC.1.2.2.1
  have o : ∀ r i, r ≠ 11 ∧ r ≠ 12 ∧ r ≠ 13 ∧ r ≠ 14 → rad s m q d r i = s r i := fun r i h => by unfold rad; rw [wr_na (by omega), wr_na (by omega), wr_na (by omega), wr_na (by omega)]
  have e11 : rad s m q d 11 0 = s 11 0 + 1 := wr_s _ _ _ _
  have e12 : ∀ j, rad s m q d 12 j = if j = (s 11 0).toNat then (m : Int) else s 12 j := fun j => by
    unfold rad
    rw [wr_na (by decide), wr_na (by decide), wr_na (by decide)]
    by_cases g : j = (s 11 0).toNat
    · subst g; rw [wr_s, if_pos rfl]
    · rw [wr_ni g, if_neg g]
  have e13 : ∀ j, rad s m q d 13 j = if j = (s 11 0).toNat then (q : Int) else s 13 j := fun j => by
    unfold rad
    rw [wr_na (by decide), wr_na (by decide)]
    by_cases g : j = (s 11 0).toNat
    · subst g; rw [wr_s, if_pos rfl]
    · rw [wr_ni g, if_neg g, wr_na (by decide)]
  refine ⟨?_, ?_, fun r i hr hi => ?_, fun r hr => ?_⟩
  · unfold mny at z1 ⊢
    rw [o 0 7 (by decide), o 0 10 (by decide), smf_cong (f := fun k => rad s m q d 2 k) (g := fun m => s 2 m) (fun k _ => o 2 k (by decide))]
    exact z1
  · rw [o 0 8 (by decide), o 5 0 (by decide)]
    have e9 : cdv (rad s m q d) (s 5 0).toNat = cdv s (s 5 0).toNat := smf_cong (fun k hk => by show (if rad s m q d 7 k = 1 ∨ rad s m q d 7 k = 2 then (1 : Int) else 0) = _; rw [o 7 k (by decide)])
    rw [e9]; exact z2
  · rw [e11] at hr
    rw [e12, o 16 i (by decide)]
    split
    · intro w
      exact fnd_no (p := fun h => s 16 h = m) (n := 4) ht i hi w.symm
    · exact z3 r i (by omega) hi
  · rw [e11] at hr
    rw [e13, o 7 _ (by decide)]
    split
    · rw [Int.toNat_natCast]; exact h7
    · exact z4 r (by omega)
theorem zro_reb {S s : Mem} {h : Nat} (hC : wfC S s) (hz : zro S s) : zro S (reb s h) := by
  have o : ∀ r j, r ≠ 20 → (r ≠ 0 ∨ j ≠ 9) → reb s h r j = s r j := fun r j h1 h2 => by unfold reb; (try dsimp only); rw [wr_n (by omega), wr_na h1]
  exact zro_c hz ⟨o _ _ (by decide) (by decide), o _ _ (by decide) (by decide), o _ _ (by decide) (by decide), o _ _ (by decide) (by decide), o _ _ (by decide) (by decide)⟩ (fun m _ => o _ _ (by decide) (by omega)) (fun q _ => o _ _ (by decide) (by omega)) (fun r _ => ⟨o _ _ (by decide) (by omega), o _ _ (by decide) (by omega), o _ _ (by decide) (by omega)⟩) (fun i _ => Or.inl (o _ _ (by decide) (by omega))) hC
theorem zro_rk {S s : Mem} {v : Int} (hC : wfC S s) (hz : zro S s) : zro S (wr s 0 6 v) := by
  have o : ∀ r j, (r ≠ 0 ∨ j ≠ 6) → wr s 0 6 v r j = s r j := fun r j h2 => wr_n (by omega)
  exact zro_c hz ⟨o _ _ (by decide), o _ _ (by decide), o _ _ (by decide), o _ _ (by decide), o _ _ (by decide)⟩ (fun m _ => o _ _ (by omega)) (fun q _ => o _ _ (by omega)) (fun r _ => ⟨o _ _ (by omega), o _ _ (by omega), o _ _ (by omega)⟩) (fun i _ => Or.inl (o _ _ (by omega))) hC
theorem zro_shp5 {S s : Mem} {m : Nat} (hS : wfS S) (hC : wfC S s) (hz : zro S s) (hm : (m : Int) < S 0 7) : zro S (shp5 s m) := by
  obtain ⟨z1, z2, z3, z4⟩ := hz
  have o : ∀ r j, r ≠ 2 → r ≠ 3 → (r ≠ 0 ∨ j ≠ 10) → shp5 s m r j = s r j := fun r j h1 h2 h3 => by unfold shp5; (try dsimp only); rw [wr_n (by omega), wr_na h2, wr_na h1]
  have e10 : iI (shp5 s m 0 10) = iI (s 0 10 + 1) := by unfold shp5; (try dsimp only); rw [wr_s, iI_wp, wr_na (by decide), wr_na (by decide)]
  have e2 : ∀ j, shp5 s m 2 j = if j = m then s 2 m - 2 else s 2 j := fun j => by
    unfold shp5; (try dsimp only)
    rw [wr_na (by decide), wr_na (by decide)]
    by_cases g : j = m
    · subst g; rw [wr_s, if_pos rfl]
    · rw [wr_ni g, if_neg g]
  refine ⟨?_, ?_, fun r i hr hi => ?_, fun r hr => ?_⟩
  · have h9 := smf_up (f := fun k => s 2 k) (g := fun k => shp5 s m 2 k) (k := m) (fun j hj => by show shp5 s m 2 j = s 2 j; rw [e2, if_neg hj]) (n := (S 0 7).toNat)
    rw [if_pos (by omega), e2, if_pos rfl] at h9
    rw [← z1]
    unfold mny
    rw [h9, o 0 7 (by decide) (by decide) (by decide), show s 0 7 + 2 * shp5 s m 0 10 + (smf (fun k => s 2 k) (S 0 7).toNat + (s 2 m - 2 - s 2 m)) = shp5 s m 0 10 + shp5 s m 0 10 + (s 0 7 + smf (fun k => s 2 k) (S 0 7).toNat - 2) by omega, ← iI_add, ← iI_add, e10, iI_add, iI_add]
    congr 1
    omega
  · rw [o 0 8 (by decide) (by decide) (by decide), o 5 0 (by decide) (by decide) (by decide)]
    have e9 : cdv (shp5 s m) (s 5 0).toNat = cdv s (s 5 0).toNat := smf_cong (fun k hk => by show (if shp5 s m 7 k = 1 ∨ shp5 s m 7 k = 2 then (1 : Int) else 0) = _; rw [o 7 k (by decide) (by decide) (by omega)])
    rw [e9]; exact z2
  · rw [o 11 0 (by decide) (by decide) (by decide)] at hr
    rw [o 12 r (by decide) (by decide) (by omega), o 16 i (by decide) (by decide) (by omega)]
    exact z3 r i hr hi
  · rw [o 11 0 (by decide) (by decide) (by decide)] at hr
    rw [o 7 _ (by decide) (by decide) (by omega), o 13 r (by decide) (by decide) (by omega)]
    exact z4 r hr
