/-! pieces of what holds of a setup and a chamber -/
theorem wf_n {S : Mem} (hS : wfS S) : 1 ≤ S 0 7 ∧ S 0 7 ≤ 12 ∧ 1 ≤ S 0 0 ∧ S 0 0 ≤ 4 := ⟨hS.2.2.2.2.2.2.2.2.2.2.2.2.2.2.1, hS.2.2.2.2.2.2.2.2.2.2.2.2.2.2.2.1, hS.1, hS.2.1⟩
theorem wf_m {S : Mem} (hS : wfS S) : ∀ m : Nat, (m : Int) < S 0 7 → 1 ≤ S 2 m ∧ S 2 m ≤ 9 ∧ 0 ≤ S 3 m ∧ S 3 m ≤ 20 ∧ 0 ≤ S 4 m ∧ S 4 m ≤ 99 := hS.2.2.2.2.2.2.2.2.2.2.2.2.2.2.2.2
theorem wf_r {S s : Mem} (hS : wfS S) (hC : wfC S s) : 0 ≤ s 5 0 ∧ s 5 0 ≤ 16 ∧ 0 ≤ s 11 0 ∧ s 11 0 ≤ 12 := by
  have := wf_n hS
  have := hC.1
  omega
theorem wf_rad {S s : Mem} {m q : Nat} {d : Int} (hS : wfS S) (hC : wfC S s) (hm : (m : Int) < S 0 7) (hq : (q : Int) < s 5 0) (hd : d = 1 ∨ d = -1) (hp : plc s m = -1) : wfC S (rad s m q d) := by
  obtain ⟨n1, n12, c1, c4⟩ := wf_n hS
  obtain ⟨⟨a1, a2, a3, a4, a5, a6, a7⟩, b, c, dd, e, f⟩ := hC
  obtain ⟨n, hn⟩ := Int.eq_ofNat_of_zero_le a3
  have en : (s 11 0).toNat = n := by omega
  have o : ∀ r j, r < 11 ∨ 14 < r → rad s m q d r j = s r j := fun r j hr => by unfold rad; rw [wr_na (by omega), wr_na (by omega), wr_na (by omega), wr_na (by omega)]
  have l : ∀ m' q', ln (rad s m q d) m' q' = ln s m' q' := fun _ _ => o _ _ (by decide)
  have e11 : rad s m q d 11 0 = s 11 0 + 1 := wr_s _ _ _ _
  have e12 : ∀ j, rad s m q d 12 j = if j = n then (m : Int) else s 12 j := fun j => by unfold rad wr; rw [en]; by_cases g : j = n <;> simp [g]
  have e13 : ∀ j, rad s m q d 13 j = if j = n then (q : Int) else s 13 j := fun j => by unfold rad wr; rw [en]; by_cases g : j = n <;> simp [g]
  have e14 : ∀ j, rad s m q d 14 j = if j = n then d else s 14 j := fun j => by unfold rad wr; rw [en]; by_cases g : j = n <;> simp [g]
  have hno : ∀ r : Nat, r < n → s 12 r ≠ m := fun r hr => fnd_no hp r (by omega)
  have hlt : s 11 0 < S 0 7 := by
    have hinj : ((List.range n).map (fun r => (s 12 r).toNat)).Nodup := by
      unfold List.Nodup
      rw [List.pairwise_map]
      refine List.Pairwise.imp_of_mem ?_ List.pairwise_lt_range
      intro i j hi hj hij w
      have hi2 := List.mem_range.mp hi
      have hj2 := List.mem_range.mp hj
      have d1 := dd i (by omega)
      have d2 := dd j (by omega)
      have := e i j (by omega) (by omega) (by omega)
      omega
    have hsub : (m :: (List.range n).map (fun r => (s 12 r).toNat)).Nodup := by
      rw [List.nodup_cons]
      refine ⟨fun w => ?_, hinj⟩
      obtain ⟨r, hr, hr2⟩ := List.mem_map.mp w
      have hr3 := List.mem_range.mp hr
      have d1 := dd r (by omega)
      exact hno r hr3 (by omega)
    have hle := List.Nodup.length_le_of_subset (l₁ := m :: (List.range n).map (fun r => (s 12 r).toNat)) (l₂ := List.range (S 0 7).toNat) hsub (by
      intro x hx
      rw [List.mem_range]
      rcases List.mem_cons.mp hx with h | h
      · omega
      · obtain ⟨r, hr, hr2⟩ := List.mem_map.mp h
        have hr3 := List.mem_range.mp hr
        have d1 := dd r (by omega)
        omega)
    simp at hle
    omega
  refine ⟨⟨by rw [o 5 0 (by decide)]; exact a1, by rw [o 5 0 (by decide)]; exact a2, by omega, by omega, by rw [o 0 6 (by decide)]; exact a5, by rw [o 0 6 (by decide)]; exact a6, by rw [mrs_c (fun j _ => o 20 j (by decide))]; exact a7⟩, fun x hx => ?_, fun x hx => ?_, fun r hr => ?_, fun r k hr hk => ?_, fun j hj => ?_⟩
  · rw [o 2 x (by decide), o 3 x (by decide)]; exact b x hx
  · rw [o 5 0 (by decide)] at hx
    rw [o 6 x (by decide), o 7 x (by decide), o 8 x (by decide), o 9 x (by decide)]
    simp only [l]
    exact c x hx
  · rw [e12, e13, e14, o 5 0 (by decide)]
    by_cases g : r = n
    · rw [if_pos g, if_pos g, if_pos g]; omega
    · rw [if_neg g, if_neg g, if_neg g]; exact dd r (by omega)
  · rw [e12, e12]
    by_cases g : r = n <;> by_cases g2 : k = n
    · intro _; omega
    · rw [if_pos g, if_neg g2]; intro w; exact absurd w.symm (hno k (by omega))
    · rw [if_neg g, if_pos g2]; intro w; exact absurd w (hno r (by omega))
    · rw [if_neg g, if_neg g2]; exact e r k (by omega) (by omega)
  · rw [o 16 j (by decide), o 17 j (by decide), o 18 j (by decide), o 19 j (by decide), o 20 j (by decide), o 5 0 (by decide)]
    exact f j hj
