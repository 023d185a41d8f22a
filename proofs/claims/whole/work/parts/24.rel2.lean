/-! lists of requests -/
abbrev Rq : Type := Int × Int × Int
def cls (s : Mem) (n : Nat) : List Rq := (List.range n).map (fun r => (s 12 r, s 13 r, s 14 r))
def mls (ν : Nat → Int) (n : Nat) : List Rq := (List.range n).map (fun r => (ν (382 + 3 * r + 0), ν (382 + 3 * r + 1), ν (382 + 3 * r + 2)))
theorem cls_s (s : Mem) (n : Nat) : cls s (n + 1) = cls s n ++ [(s 12 n, s 13 n, s 14 n)] := by
  unfold cls
  rw [List.range_succ, List.map_append]
  rfl
theorem cls_g {s : Mem} {n r : Nat} (h : r < n) : (cls s n)[r]? = some (s 12 r, s 13 r, s 14 r) := by
  unfold cls
  rw [List.getElem?_map, List.getElem?_range h]
  rfl
theorem mls_g {ν : Nat → Int} {n r : Nat} (h : r < n) : (mls ν n)[r]? = some (ν (382 + 3 * r + 0), ν (382 + 3 * r + 1), ν (382 + 3 * r + 2)) := by
  unfold mls
  rw [List.getElem?_map, List.getElem?_range h]
  rfl
theorem cls_n (s : Mem) (n : Nat) : (cls s n).length = n := by unfold cls; rw [List.length_map, List.length_range]
theorem mls_n (ν : Nat → Int) (n : Nat) : (mls ν n).length = n := by unfold mls; rw [List.length_map, List.length_range]
theorem cls_c {s t : Mem} {n : Nat} (h : ∀ r, r < n → t 12 r = s 12 r ∧ t 13 r = s 13 r ∧ t 14 r = s 14 r) : cls t n = cls s n := by
  unfold cls
  apply List.map_congr_left
  intro r hr
  have := h r (List.mem_range.mp hr)
  rw [this.1, this.2.1, this.2.2]
theorem mvr_n {s : Mem} {i e r j : Nat} (h : j ≠ e) : mvr s i e r j = s r j := by
  unfold mvr
  rw [wr_ni h, wr_ni h, wr_ni h]
theorem mvr_e {s : Mem} {i e r : Nat} (h : 12 ≤ r ∧ r ≤ 14) : mvr s i e r e = s r i := by
  unfold mvr wr
  rcases (by omega : r = 12 ∨ r = 13 ∨ r = 14) with g | g | g <;> subst g <;> simp
theorem cab_k_ge {s : Mem} {q : Int} {r j : Nat} : ∀ k, (cab_k s q k).2 ≤ j → (cab_k s q k).1 r j = s r j
  | 0, _ => rfl
  | k + 1, h => by
    rw [cab_k] at h ⊢
    split
    · rename_i g
      rw [if_pos g] at h
      have h2 : (cab_k s q k).2 + 1 ≤ j := h
      show mvr _ _ _ r j = _
      rw [mvr_n (by omega), cab_k_ge k (by omega)]
    · rename_i g
      rw [if_neg g] at h
      exact cab_k_ge k h
theorem cab_l (s : Mem) (q : Int) : ∀ k, cls (cab_k s q k).1 (cab_k s q k).2 = (cls s k).filter (fun t => decide (t.2.1 ≠ q))
  | 0 => rfl
  | k + 1 => by
    have ih := cab_l s q k
    have hle := cab_k_le s q k
    have e13 : (cab_k s q k).1 13 k = s 13 k := cab_k_ge k hle
    rw [cls_s, List.filter_append, ← ih, cab_k]
    by_cases g : (cab_k s q k).1 13 k ≠ q
    · rw [if_pos g]
      show cls (mvr (cab_k s q k).1 k (cab_k s q k).2) ((cab_k s q k).2 + 1) = _
      rw [cls_s, cls_c (fun r hr => ⟨mvr_n (by omega), mvr_n (by omega), mvr_n (by omega)⟩), mvr_e (by decide), mvr_e (by decide), mvr_e (by decide), cab_k_ge k hle, cab_k_ge k hle, cab_k_ge k hle]
      rw [e13] at g
      congr 1
      rw [List.filter_cons_of_pos (by simpa using g)]
      rfl
    · rw [if_neg g]
      rw [e13] at g
      rw [List.filter_cons_of_neg (by simpa using g)]
      simp
theorem dpv_l {ν : Nat → Int} {k : Nat} (hk : (k : Int) < ν 11) : mls (dpv ν k) (ν 11 - 1).toNat = (mls ν (ν 11).toNat).eraseIdx k := by
  apply List.ext_getElem?
  intro j
  rw [List.getElem?_eraseIdx]
  by_cases hj : j < (ν 11 - 1).toNat
  · rw [mls_g hj, dpv_hi (by decide) (by omega), dpv_hi (by decide) (by omega), dpv_hi (by decide) (by omega)]
    by_cases g : j < k
    · rw [if_pos g, mls_g (by omega), if_neg (by omega), if_neg (by omega), if_neg (by omega)]
    · rw [if_neg g, mls_g (by omega), if_pos (by omega), if_pos (by omega), if_pos (by omega)]
  · rw [List.getElem?_eq_none (by rw [mls_n]; omega)]
    split
    · rw [List.getElem?_eq_none (by rw [mls_n]; omega)]
    · rw [List.getElem?_eq_none (by rw [mls_n]; omega)]
theorem drc_le (q : Int) : ∀ (k : Nat) (ν : Nat → Int), drc q k ν ≤ k
  | 0, _ => Nat.le_refl 0
  | k + 1, ν => by
    have h1 := drc_le q k (dpv ν k)
    have h2 := drc_le q k ν
    rw [drc]
    by_cases g : ν (382 + 3 * k + 1) = q
    · rw [if_pos g, if_pos g]; omega
    · rw [if_neg g, if_neg g]; omega
theorem dra_11 (q : Int) : ∀ (k : Nat) (ν : Nat → Int), (k : Int) ≤ ν 11 → dra q k ν 11 = ν 11 - drc q k ν
  | 0, ν, _ => by rw [dra, drc]; omega
  | k + 1, ν, h => by
    rw [dra, drc]
    by_cases g : ν (382 + 3 * k + 1) = q
    · rw [if_pos g, if_pos g]
      have e : dpv ν k 11 = ν 11 - 1 := by rw [dpv_lo (by decide), if_pos rfl]
      have ih := dra_11 q k (dpv ν k) (by rw [e]; omega)
      rw [ih, e]; omega
    · rw [if_neg g, if_neg g, dra_11 q k ν (by omega)]; omega
theorem dra_o (q : Int) {j : Nat} (hj : j < 382) (h11 : j ≠ 11) : ∀ (k : Nat) (ν : Nat → Int), dra q k ν j = ν j
  | 0, ν => rfl
  | k + 1, ν => by
    rw [dra, dra_o q hj h11 k]
    split
    · rw [dpv_lo hj, if_neg h11]
    · rfl
theorem dra_l (q : Int) : ∀ (k : Nat) (ν : Nat → Int), (k : Int) ≤ ν 11 → mls (dra q k ν) (dra q k ν 11).toNat = ((mls ν (ν 11).toNat).take k).filter (fun t => decide (t.2.1 ≠ q)) ++ (mls ν (ν 11).toNat).drop k
  | 0, ν, _ => by simp [dra]
  | k + 1, ν, h => by
    have hg := mls_g (ν := ν) (n := (ν 11).toNat) (r := k) (by omega)
    rw [dra]
    rw [List.take_add_one, hg, List.filter_append]
    by_cases g : ν (382 + 3 * k + 1) = q
    · rw [if_pos g]
      have e : dpv ν k 11 = ν 11 - 1 := by rw [dpv_lo (by decide), if_pos rfl]
      rw [dra_l q k (dpv ν k) (by rw [e]; omega), e, dpv_l (by omega), List.eraseIdx_eq_take_drop_succ]
      have hl : ((mls ν (ν 11).toNat).take k).length = k := by rw [List.length_take, mls_n]; omega
      rw [List.take_left' hl, List.drop_left' hl]
      simp [g]
    · rw [if_neg g, dra_l q k ν (by omega)]
      have hd : (mls ν (ν 11).toNat).drop k = (ν (382 + 3 * k + 0), ν (382 + 3 * k + 1), ν (382 + 3 * k + 2)) :: (mls ν (ν 11).toNat).drop (k + 1) := by
        rw [List.drop_eq_getElem_cons (by rw [mls_n]; omega)]
        congr 1
        exact Option.some.inj ((List.getElem?_eq_getElem _).symm.trans hg)
      rw [hd]
      simp [g]
