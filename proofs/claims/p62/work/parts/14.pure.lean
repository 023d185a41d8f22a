/-! closed forms -/
theorem clp_b (v : Int) : -20 ≤ clp v ∧ clp v ≤ 20 := by unfold clp; omega
theorem ln_sln {s : Mem} {m q k x : Nat} {v : Int} (hm : m < 12) (hk : k < 12) : ln (sln s k q v) m x = if x = q ∧ m = k then clp v else ln s m x := by
  unfold ln sln wr
  by_cases h : x = q ∧ m = k
  · rw [if_pos h, if_pos ⟨rfl, by rw [h.1, h.2]⟩]
  · rw [if_neg h, if_neg (by intro w; apply h; omega)]
theorem ln_esk {S s : Mem} {sp q : Nat} {ch : Int} {m x : Nat} (hm : m < 12) : ∀ k, k ≤ 12 → ln (esk S s sp q ch k) m x = if x = q ∧ m < k ∧ m ≠ sp ∧ ((S 3 m - S 3 sp).natAbs : Int) ≤ S 0 3 then clp (ln s m q + ch) else ln s m x
  | 0, _ => by rw [if_neg (by omega)]; rfl
  | k + 1, hk => by
    have ih := fun x => ln_esk (S := S) (s := s) (sp := sp) (q := q) (ch := ch) (m := m) (x := x) hm k (by omega)
    rw [esk]
    by_cases h : k ≠ sp ∧ ((S 3 k - S 3 sp).natAbs : Int) ≤ S 0 3
    · rw [if_pos h, ln_sln hm (by omega), ih x]
      by_cases hx : x = q
      · subst hx
        by_cases hmk : m = k
        · subst hmk
          rw [if_pos ⟨rfl, rfl⟩, if_pos ⟨rfl, by omega, h.1, h.2⟩, ih x, if_neg (by omega)]
        · rw [if_neg (by omega)]
          by_cases g : x = x ∧ m < k ∧ m ≠ sp ∧ ((S 3 m - S 3 sp).natAbs : Int) ≤ S 0 3
          · rw [if_pos g, if_pos ⟨g.1, by omega, g.2.2⟩]
          · rw [if_neg g, if_neg (fun w => g ⟨w.1, by omega, w.2.2⟩)]
      · rw [if_neg (by omega), if_neg (fun w => hx w.1), if_neg (fun w => hx w.1)]
    · rw [if_neg h, ih x]
      by_cases hmk : m = k
      · subst hmk
        rw [if_neg (by omega), if_neg (fun w => h ⟨w.2.2.1, w.2.2.2⟩)]
      · by_cases g : x = q ∧ m < k ∧ m ≠ sp ∧ ((S 3 m - S 3 sp).natAbs : Int) ≤ S 0 3
        · rw [if_pos g, if_pos ⟨g.1, by omega, g.2.2⟩]
        · rw [if_neg g, if_neg (fun w => g ⟨w.1, by omega, w.2.2⟩)]
theorem rmk_c {s : Mem} {p r j : Nat} (h : 12 ≤ r ∧ r ≤ 14) : ∀ k, rmk s p k r j = if p ≤ j ∧ j < p + k then s r (j + 1) else s r j
  | 0 => by rw [if_neg (by omega)]; rfl
  | k + 1 => by
    have ih := fun j => rmk_c (s := s) (p := p) (r := r) (j := j) h k
    have key : rmk s p (k + 1) r j = if j = p + k then rmk s p k r (p + 1 + k) else rmk s p k r j := by
      rw [rmk]
      unfold mvr wr
      rcases (by omega : r = 12 ∨ r = 13 ∨ r = 14) with e | e | e <;> subst e <;> by_cases g : j = p + k <;> simp [g]
    rw [key]
    by_cases g : j = p + k
    · subst g
      rw [if_pos rfl, ih, if_neg (by omega), if_pos (by omega), show p + 1 + k = p + k + 1 by omega]
    · rw [if_neg g, ih]
      by_cases g2 : p ≤ j ∧ j < p + k
      · rw [if_pos g2, if_pos (by omega)]
      · rw [if_neg g2, if_neg (by omega)]
theorem rmv_c {s : Mem} {p r j : Nat} (h : 12 ≤ r ∧ r ≤ 14) (hj : (j : Int) + 1 < s 11 0) : rmv s p r j = if p ≤ j then s r (j + 1) else s r j := by
  unfold rmv
  rw [wr_na (by omega), rmk_c h]
  by_cases g : p ≤ j
  · rw [if_pos g, if_pos (by omega)]
  · rw [if_neg g, if_neg (by omega)]
theorem rmv_11 {s : Mem} {p : Nat} : rmv s p 11 0 = s 11 0 - 1 := wr_s _ _ _ _
theorem esp_8 {S s : Mem} {h j : Nat} : esp S s h 8 j = if j = (s 17 h).toNat then min (s 8 j + 1) 9 else s 8 j := by
  unfold esp lve
  rw [wr_na (by decide), wr_na (by decide), wr_na (by decide)]
  unfold wr
  by_cases g : j = (s 17 h).toNat
  · subst g; rw [if_pos ⟨rfl, rfl⟩, if_pos rfl, esk_o (by decide)]
  · rw [if_neg (by omega), if_neg g, esk_o (by decide)]
theorem esp_o {S s : Mem} {h r j : Nat} (hr : r ≠ 8 ∧ r ≠ 10 ∧ r ≠ 16 ∧ r ≠ 19 ∧ r ≠ 20) : esp S s h r j = s r j := by
  unfold esp lve
  rw [wr_na (by omega), wr_na (by omega), wr_na (by omega), wr_na (by omega), esk_o (by omega)]
theorem esp_h {S s : Mem} {h r j : Nat} (hr : r = 16 ∨ r = 19 ∨ r = 20) : esp S s h r j = if j = h then (if r = 16 then -1 else 0) else s r j := by
  unfold esp lve
  unfold wr
  rcases hr with e | e | e <;> subst e <;> by_cases g : j = h <;> simp [g, esk_o]
theorem esp_ln {S s : Mem} {h m x : Nat} (hm : m < 12) (hn : S 0 7 ≤ 12) : ln (esp S s h) m x = if x = (s 17 h).toNat ∧ (m : Int) < S 0 7 ∧ m ≠ (s 16 h).toNat ∧ ((S 3 m - S 3 (s 16 h).toNat).natAbs : Int) ≤ S 0 3 then clp (ln s m x + s 18 h * (if 0 < s 20 h then 1 else 2)) else ln s m x := by
  have e : ln (esp S s h) m x = ln (esk S s (s 16 h).toNat (s 17 h).toNat (s 18 h * (if 0 < s 20 h then 1 else 2)) (S 0 7).toNat) m x := by
    unfold ln esp lve
    rw [wr_na (by decide), wr_na (by decide), wr_na (by decide), wr_na (by decide)]
  rw [e, ln_esk hm _ (by omega)]
  by_cases g : x = (s 17 h).toNat ∧ (m : Int) < S 0 7 ∧ m ≠ (s 16 h).toNat ∧ ((S 3 m - S 3 (s 16 h).toNat).natAbs : Int) ≤ S 0 3
  · rw [if_pos g, if_pos ⟨g.1, by omega, g.2.2⟩, g.1]
  · rw [if_neg g, if_neg (fun w => g ⟨w.1, by omega, w.2.2⟩)]
theorem mrs_4 (s : Mem) : mrs s = s 20 0 + s 20 1 + s 20 2 + s 20 3 := by
  show 0 + s 20 0 + s 20 1 + s 20 2 + s 20 3 = _
  omega
theorem mrs_c {s t : Mem} (h : ∀ j, j < 4 → t 20 j = s 20 j) : mrs t = mrs s := by
  rw [mrs_4, mrs_4, h 0 (by decide), h 1 (by decide), h 2 (by decide), h 3 (by decide)]
theorem mrs_le {s t : Mem} (h : ∀ j, j < 4 → t 20 j ≤ s 20 j) : mrs t ≤ mrs s := by
  have h0 := h 0 (by decide)
  have h1 := h 1 (by decide)
  have h2 := h 2 (by decide)
  have h3 := h 3 (by decide)
  rw [mrs_4, mrs_4]
  omega
/-! what holds stays -/
theorem wf_esp {S s : Mem} {h : Nat} {w : Int} (hS : wfS S) (hC : wfC S s) (hh : h < 4) (ho : s 16 h ≠ -1) : wfC S (esp S (wr s 19 h w) h) := by
  have hS7 : S 0 7 ≤ 12 := hS.2.2.2.2.2.2.2.2.2.2.2.2.2.2.2.1
  obtain ⟨⟨a1, a2, a3, a4, a5, a6, a7⟩, b, c, d, e, f⟩ := hC
  have o : ∀ r j, r ≠ 8 ∧ r ≠ 10 ∧ r ≠ 16 ∧ r ≠ 19 ∧ r ≠ 20 → esp S (wr s 19 h w) h r j = s r j := fun r j hr => by rw [esp_o hr, wr_na (by omega)]
  refine ⟨⟨by rw [o 5 0 (by decide)]; exact a1, by rw [o 5 0 (by decide)]; exact a2, by rw [o 11 0 (by decide)]; exact a3, by rw [o 11 0 (by decide)]; exact a4, by rw [o 0 6 (by decide)]; exact a5, by rw [o 0 6 (by decide)]; exact a6, ?_⟩, fun m hm => ?_, fun q hq => ?_, fun r hr => ?_, fun r k hr hk => ?_, fun i hi => ?_⟩
  · refine Int.le_trans (mrs_le (fun j hj => ?_)) a7
    rw [esp_h (Or.inr (Or.inr rfl)), wr_na (by decide)]
    have := f j hj
    split
    · rw [if_neg (by decide)]; omega
    · omega
  · rw [o 2 m (by decide), o 3 m (by decide)]; exact b m hm
  · rw [o 5 0 (by decide)] at hq
    have hc := c q hq
    rw [o 6 q (by decide), o 7 q (by decide), o 9 q (by decide), esp_8, wr_na (by decide : (8 : Nat) ≠ 19)]
    refine ⟨hc.1, hc.2.1, hc.2.2.1, hc.2.2.2.1, by split <;> omega, by split <;> omega, hc.2.2.2.2.2.2.1, hc.2.2.2.2.2.2.2.1, fun m hm => ?_⟩
    have h9 := hc.2.2.2.2.2.2.2.2 m hm
    rw [esp_ln (by omega) hS7]
    split
    · exact clp_b _
    · unfold ln at *; rw [wr_na (by decide)]; exact h9
  · rw [o 11 0 (by decide)] at hr
    rw [o 12 r (by decide), o 13 r (by decide), o 14 r (by decide), o 5 0 (by decide)]
    exact d r hr
  · rw [o 11 0 (by decide)] at hr hk
    rw [o 12 r (by decide), o 12 k (by decide)]
    exact e r k hr hk
  · rw [esp_h (r := 16) (Or.inl rfl), esp_h (r := 19) (Or.inr (Or.inl rfl)), esp_h (r := 20) (Or.inr (Or.inr rfl)), o 17 i (by decide), o 18 i (by decide), o 5 0 (by decide), wr_na (by decide : (16 : Nat) ≠ 19), wr_na (by decide : (20 : Nat) ≠ 19)]
    have hf := f i hi
    by_cases g : i = h
    · left
      rw [if_pos g, if_pos g, if_pos g]
      exact ⟨rfl, rfl, rfl⟩
    · rw [if_neg g, if_neg g, if_neg g, wr_ni g]
      exact hf
theorem wf_dec {S s : Mem} {h : Nat} (hC : wfC S s) (hh : h < 4) (ho : s 16 h ≠ -1) (h1 : s 19 h - 1 ≠ 0) : wfC S (wr s 19 h (s 19 h - 1)) := by
  obtain ⟨⟨a1, a2, a3, a4, a5, a6, a7⟩, b, c, d, e, f⟩ := hC
  have o : ∀ r j, r ≠ 19 → wr s 19 h (s 19 h - 1) r j = s r j := fun r j hr => wr_na hr
  have l : ∀ m q, ln (wr s 19 h (s 19 h - 1)) m q = ln s m q := fun m q => wr_na (by decide)
  refine ⟨⟨by rw [o 5 0 (by decide)]; exact a1, by rw [o 5 0 (by decide)]; exact a2, by rw [o 11 0 (by decide)]; exact a3, by rw [o 11 0 (by decide)]; exact a4, by rw [o 0 6 (by decide)]; exact a5, by rw [o 0 6 (by decide)]; exact a6, by rw [mrs_c (fun j _ => o 20 j (by decide))]; exact a7⟩, fun m hm => ?_, fun q hq => ?_, fun r hr => ?_, fun r k hr hk => ?_, fun i hi => ?_⟩
  · rw [o 2 m (by decide), o 3 m (by decide)]; exact b m hm
  · rw [o 5 0 (by decide)] at hq
    rw [o 6 q (by decide), o 7 q (by decide), o 8 q (by decide), o 9 q (by decide)]
    simp only [l]
    exact c q hq
  · rw [o 11 0 (by decide)] at hr
    rw [o 12 r (by decide), o 13 r (by decide), o 14 r (by decide), o 5 0 (by decide)]
    exact d r hr
  · rw [o 11 0 (by decide)] at hr hk
    rw [o 12 r (by decide), o 12 k (by decide)]
    exact e r k hr hk
  · rw [o 16 i (by decide), o 17 i (by decide), o 18 i (by decide), o 20 i (by decide), o 5 0 (by decide)]
    have hf := f i hi
    by_cases g : i = h
    · subst g
      rw [wr_s]
      omega
    · rw [wr_ni g]; exact hf
theorem spk_o {S s : Mem} {h p r j : Nat} (hr : r < 4 ∨ (4 < r ∧ r < 9) ∨ r = 10 ∨ r = 15 ∨ 19 < r) : spk S s h p r j = s r j := by
  unfold spk
  rw [wr_na (by omega), wr_na (by omega), wr_na (by omega), wr_na (by omega), wr_na (by omega), wr_na (by omega), rmv_o (by omega)]
theorem spk_r {S s : Mem} {h p r j : Nat} (hr : 11 ≤ r ∧ r ≤ 14) : spk S s h p r j = rmv s p r j := by
  unfold spk
  rw [wr_na (by omega), wr_na (by omega), wr_na (by omega), wr_na (by omega), wr_na (by omega), wr_na (by omega)]
theorem spk_9 {S s : Mem} {h p j : Nat} : spk S s h p 9 j = if j = (s 13 p).toNat then s 14 p else s 9 j := by
  unfold spk
  rw [wr_na (by decide)]
  by_cases g : j = (s 13 p).toNat
  · subst g; rw [wr_s, if_pos rfl]
  · rw [wr_ni g, if_neg g, wr_na (by decide), wr_na (by decide), wr_na (by decide), wr_na (by decide), rmv_o (by decide)]
theorem spk_h {S s : Mem} {h p r j : Nat} (hr : 16 ≤ r ∧ r ≤ 19) : spk S s h p r j = if j = h then (if r = 16 then ((s 12 p).toNat : Int) else if r = 17 then ((s 13 p).toNat : Int) else if r = 18 then s 14 p else S 0 2) else s r j := by
  unfold spk
  rw [wr_na (by omega), wr_na (by omega)]
  unfold wr
  rcases (by omega : r = 16 ∨ r = 17 ∨ r = 18 ∨ r = 19) with e | e | e | e <;> subst e <;> by_cases g : j = h <;> simp [g, rmv_o]
theorem wf_spk {S s : Mem} {h p : Nat} (hS : wfS S) (hC : wfC S s) (hh : (h : Int) < S 0 0) (ho : s 16 h = -1) (hp : (p : Int) < s 11 0) : wfC S (spk S s h p) := by
  obtain ⟨s1, s2, s3, s4, s5, s6, s7, s8, s9, s10, s11, s12, s13, s14, s15, s16, hmem⟩ := hS
  obtain ⟨⟨a1, a2, a3, a4, a5, a6, a7⟩, b, c, d, e, f⟩ := hC
  have hd := d p hp
  have e5 : spk S s h p 5 0 = s 5 0 := spk_o (by decide)
  have e11 : spk S s h p 11 0 = s 11 0 - 1 := by rw [spk_r (by decide), rmv_11]
  refine ⟨⟨by rw [e5]; exact a1, by rw [e5]; exact a2, by rw [e11]; omega, by rw [e11]; omega, by rw [spk_o (by decide)]; exact a5, by rw [spk_o (by decide)]; exact a6, by rw [mrs_c (fun j _ => spk_o (by decide))]; exact a7⟩, fun m hm => ?_, fun q hq => ?_, fun r hr => ?_, fun r k hr hk => ?_, fun i hi => ?_⟩
  · rw [spk_o (by decide), spk_o (by decide)]; exact b m hm
  · rw [e5] at hq
    have hc := c q hq
    have l : ∀ m, ln (spk S s h p) m q = ln s m q := fun m => spk_o (by decide)
    rw [spk_o (by decide), spk_o (by decide), spk_o (by decide), spk_9]
    simp only [l]
    refine ⟨hc.1, hc.2.1, hc.2.2.1, hc.2.2.2.1, hc.2.2.2.2.1, hc.2.2.2.2.2.1, by split <;> omega, by split <;> omega, hc.2.2.2.2.2.2.2.2⟩
  · rw [e11] at hr
    rw [e5, spk_r (r := 12) (by decide), spk_r (r := 13) (by decide), spk_r (r := 14) (by decide), rmv_c (r := 12) (by decide) (by omega), rmv_c (r := 13) (by decide) (by omega), rmv_c (r := 14) (by decide) (by omega)]
    have d1 := d (r + 1) (by omega)
    have d2 := d r (by omega)
    by_cases g : p ≤ r
    · rw [if_pos g, if_pos g, if_pos g]; exact d1
    · rw [if_neg g, if_neg g, if_neg g]; exact d2
  · rw [e11] at hr hk
    rw [spk_r (by decide), spk_r (by decide), rmv_c (by decide) (by omega), rmv_c (by decide) (by omega)]
    by_cases g : p ≤ r <;> by_cases g2 : p ≤ k
    · rw [if_pos g, if_pos g2]; intro w; have := e (r + 1) (k + 1) (by omega) (by omega) w; omega
    · rw [if_pos g, if_neg g2]; intro w; have := e (r + 1) k (by omega) (by omega) w; omega
    · rw [if_neg g, if_pos g2]; intro w; have := e r (k + 1) (by omega) (by omega) w; omega
    · rw [if_neg g, if_neg g2]; intro w; have := e r k (by omega) (by omega) w; omega
  · rw [e5, spk_o (r := 20) (by decide), spk_h (r := 16) (by decide), spk_h (r := 17) (by decide), spk_h (r := 18) (by decide), spk_h (r := 19) (by decide)]
    have hf := f i hi
    by_cases g : i = h
    · subst g
      right
      refine ⟨hh, ?_, ?_, ?_, ?_, ?_, ?_, ?_, ?_, ?_⟩ <;> (repeat' split) <;> omega
    · simp only [if_neg g]; exact hf
