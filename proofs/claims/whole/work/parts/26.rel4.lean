/-! a new motion, a new request -/
theorem ln_amk {S s : Mem} {q : Nat} {x : Int} {m y : Nat} (hm : m < 12) : ∀ k, k ≤ 12 → ln (amk S s q x k) m y = if y = q ∧ m < k then clp (5 - ((S 3 m - x).natAbs : Int)) else ln s m y
  | 0, _ => by rw [if_neg (by omega)]; rfl
  | k + 1, hk => by
    rw [amk, ln_sln hm (by omega), ln_amk hm k (by omega)]
    by_cases g : y = q ∧ m = k
    · rw [if_pos g, if_pos (by omega), g.2]
    · rw [if_neg g]
      by_cases g2 : y = q ∧ m < k
      · rw [if_pos g2, if_pos (by omega)]
      · rw [if_neg g2, if_neg (by omega)]
def amn (S : Mem) (ν : Nat → Int) (q : Nat) (x : Int) : Nat → Nat → Int
  | 0 => ν
  | k + 1 => wv (amn S ν q x k) (170 + 16 * k + q) (5 - ((S 3 k - x).natAbs : Int))
theorem amn_o {S : Mem} {ν : Nat → Int} {q : Nat} {x : Int} {j : Nat} : ∀ k, (∀ i, i < k → j ≠ 170 + 16 * i + q) → amn S ν q x k j = ν j
  | 0, _ => rfl
  | k + 1, h => by rw [amn, wv_n (h k (by omega)), amn_o k (fun i hi => h i (by omega))]
theorem amn_l {S : Mem} {ν : Nat → Int} {q : Nat} {x : Int} {m : Nat} : ∀ k, m < k → amn S ν q x k (170 + 16 * m + q) = 5 - ((S 3 m - x).natAbs : Int)
  | 0, h => by omega
  | k + 1, h => by
    rw [amn]
    by_cases g : m = k
    · subst g; rw [wv_s]
    · rw [wv_n (by omega), amn_l k (by omega)]
def am0n (ν : Nat → Int) (q : Nat) (m x : Int) : Nat → Int := wv (wv (wv (wv (wv ν (90 + 5 * q + 0) m) (90 + 5 * q + 1) x) (90 + 5 * q + 2) 0) (90 + 5 * q + 3) 0) (90 + 5 * q + 4) (-1)
theorem clp_5 {S : Mem} {m : Nat} {x : Int} (h : 0 ≤ S 3 m ∧ S 3 m ≤ 20) (hx : 0 ≤ x ∧ x ≤ 20) : clp (5 - ((S 3 m - x).natAbs : Int)) = 5 - ((S 3 m - x).natAbs : Int) := by unfold clp; omega
theorem amo_o {S s : Mem} {m x : Int} {r j : Nat} (h : r ≠ 5 ∧ r ≠ 6 ∧ r ≠ 7 ∧ r ≠ 8 ∧ r ≠ 9 ∧ r ≠ 10) : amo S s m x r j = s r j := by
  unfold amo am0
  rw [wr_na (by omega), amk_o (by omega), wr_na (by omega), wr_na (by omega), wr_na (by omega), wr_na (by omega)]
theorem amo_5 {S s : Mem} {m x : Int} : amo S s m x 5 0 = s 5 0 + 1 := wr_s _ _ _ _
theorem amo_q {S s : Mem} {m x : Int} {r j : Nat} (h : r = 6 ∨ r = 7 ∨ r = 8 ∨ r = 9) : amo S s m x r j = if j = (s 5 0).toNat then (if r = 6 then m else 0) else s r j := by
  unfold amo
  rw [wr_na (by omega), amk_o (by omega)]
  unfold am0 wr
  rcases h with e | e | e | e <;> subst e <;> by_cases g : j = (s 5 0).toNat <;> simp [g]
theorem amo_l {S s : Mem} {m x : Int} {i y : Nat} (hi : (i : Int) < S 0 7) (h12 : S 0 7 ≤ 12) : ln (amo S s m x) i y = if y = (s 5 0).toNat then clp (5 - ((S 3 i - x).natAbs : Int)) else ln s i y := by
  have e : ln (amo S s m x) i y = ln (amk S (am0 s m (s 5 0).toNat) (s 5 0).toNat x (S 0 7).toNat) i y := by unfold ln amo; rw [wr_na (by decide)]
  rw [e, ln_amk (by omega) _ (by omega)]
  by_cases g : y = (s 5 0).toNat
  · rw [if_pos g, if_pos ⟨g, by omega⟩]
  · rw [if_neg g, if_neg (fun w => g w.1)]
    unfold ln am0
    rw [wr_na (by decide), wr_na (by decide), wr_na (by decide), wr_na (by decide)]
theorem wf_amo {S s : Mem} {m x : Int} (hC : wfC S s) (h12 : S 0 7 ≤ 12) (h16 : s 5 0 < 16) (hm : 0 ≤ m ∧ m < S 0 7) : wfC S (amo S s m x) := by
  obtain ⟨⟨a1, a2, a3, a4, a5, a6, a7⟩, b, c, d, e, f⟩ := hC
  have e5 : amo S s m x 5 0 = s 5 0 + 1 := amo_5
  have o : ∀ r i, r ≠ 5 ∧ r ≠ 6 ∧ r ≠ 7 ∧ r ≠ 8 ∧ r ≠ 9 ∧ r ≠ 10 → amo S s m x r i = s r i := fun r i h => amo_o h
  refine ⟨⟨by omega, by omega, by rw [o 11 0 (by decide)]; exact a3, by rw [o 11 0 (by decide)]; exact a4, by rw [o 0 6 (by decide)]; exact a5, by rw [o 0 6 (by decide)]; exact a6, by rw [mrs_c (fun j _ => o 20 j (by decide))]; exact a7⟩, fun y hy => ?_, fun q hq => ?_, fun r hr => ?_, fun r k hr hk => ?_, fun i hi => ?_⟩
  · rw [o 2 y (by decide), o 3 y (by decide)]; exact b y hy
  · rw [amo_q (r := 6) (by decide), amo_q (r := 7) (by decide), amo_q (r := 8) (by decide), amo_q (r := 9) (by decide)]
    by_cases g : q = (s 5 0).toNat
    · rw [if_pos g, if_pos g, if_pos g, if_pos g, if_pos rfl, if_neg (by decide), if_neg (by decide), if_neg (by decide)]
      refine ⟨hm.1, hm.2, by decide, by decide, by decide, by decide, by decide, by decide, fun i hi => ?_⟩
      rw [amo_l hi h12, if_pos g]
      exact clp_b _
    · rw [if_neg g, if_neg g, if_neg g, if_neg g]
      have hc := c q (by omega)
      refine ⟨hc.1, hc.2.1, hc.2.2.1, hc.2.2.2.1, hc.2.2.2.2.1, hc.2.2.2.2.2.1, hc.2.2.2.2.2.2.1, hc.2.2.2.2.2.2.2.1, fun i hi => ?_⟩
      rw [amo_l hi h12, if_neg g]
      exact hc.2.2.2.2.2.2.2.2 i hi
  · rw [o 11 0 (by decide)] at hr
    rw [o 12 r (by decide), o 13 r (by decide), o 14 r (by decide)]
    have := d r hr
    omega
  · rw [o 11 0 (by decide)] at hr hk
    rw [o 12 r (by decide), o 12 k (by decide)]
    exact e r k hr hk
  · rw [o 16 i (by decide), o 17 i (by decide), o 18 i (by decide), o 19 i (by decide), o 20 i (by decide)]
    have := f i hi
    omega
theorem rel_amo {S s : Mem} {ν : Nat → Int} {m x : Int} {q : Nat} (hr : rel S s ν) (hS : wfS S) (hC : wfC S s) (hq : s 5 0 = q) (h16 : s 5 0 < 16) (hx : 0 ≤ x ∧ x ≤ 20) : rel S (amo S s m x) (wv (amn S (am0n ν q m x) q x (S 0 7).toNat) 9 (s 5 0 + 1)) := by
  obtain ⟨n1, n12, c1, c4⟩ := wf_n hS
  obtain ⟨q0, q16, r0, r12⟩ := wf_r hS hC
  have hmem := wf_m hS
  have eq : (s 5 0).toNat = q := by omega
  have o : ∀ r i, r ≠ 5 ∧ r ≠ 6 ∧ r ≠ 7 ∧ r ≠ 8 ∧ r ≠ 9 ∧ r ≠ 10 → amo S s m x r i = s r i := fun r i h => amo_o h
  have z : ∀ j, j ≠ 9 → (∀ w, w < 5 → j ≠ 90 + 5 * q + w) → (∀ i, i < 12 → j ≠ 170 + 16 * i + q) → wv (amn S (am0n ν q m x) q x (S 0 7).toNat) 9 (s 5 0 + 1) j = ν j := fun j h1 h2 h3 => by
    rw [wv_n h1, amn_o _ (fun i hi => h3 i (by omega))]
    unfold am0n
    rw [wv_n (h2 4 (by decide)), wv_n (h2 3 (by decide)), wv_n (h2 2 (by decide)), wv_n (h2 1 (by decide)), wv_n (h2 0 (by decide))]
  have zq : ∀ w, w < 5 → wv (amn S (am0n ν q m x) q x (S 0 7).toNat) 9 (s 5 0 + 1) (90 + 5 * q + w) = am0n ν q m x (90 + 5 * q + w) := fun w hw => by
    rw [wv_n (by omega), amn_o _ (fun i hi => by omega)]
  refine ⟨⟨?_, ?_, ?_, ?_, ?_, ?_, ?_, ?_, ?_⟩, ⟨?_, ?_, ?_, ?_, ?_, ?_, ?_, ?_⟩, fun i hi => ?_, fun i hi => ?_, fun i hi => ?_, fun i hi => ?_⟩
  · rw [z 0 (by omega) (by omega) (by omega)]; exact rs0 hr
  · rw [z 1 (by omega) (by omega) (by omega)]; exact rs1 hr
  · rw [z 2 (by omega) (by omega) (by omega)]; exact rs2 hr
  · rw [z 3 (by omega) (by omega) (by omega)]; exact rs3 hr
  · rw [z 4 (by omega) (by omega) (by omega)]; exact rs4 hr
  · rw [z 5 (by omega) (by omega) (by omega)]; exact rs5 hr
  · rw [z 6 (by omega) (by omega) (by omega)]; exact rs6 hr
  · rw [z 8 (by omega) (by omega) (by omega)]; exact rs8 hr
  · rw [z 16 (by omega) (by omega) (by omega)]; exact rs16 hr
  · rw [z 7 (by omega) (by omega) (by omega), o 0 5 (by decide)]; exact rs7 hr
  · rw [wv_s, amo_5]
  · rw [z 10 (by omega) (by omega) (by omega), o 0 6 (by decide)]; exact rs10 hr
  · rw [z 11 (by omega) (by omega) (by omega), o 11 0 (by decide)]; exact rs11 hr
  · rw [z 12 (by omega) (by omega) (by omega), o 0 7 (by decide)]; exact rs12 hr
  · rw [z 13 (by omega) (by omega) (by omega), o 0 8 (by decide)]; exact rs13 hr
  · rw [z 14 (by omega) (by omega) (by omega), o 0 9 (by decide)]; exact rs14 hr
  · rw [z 15 (by omega) (by omega) (by omega), o 0 10 (by decide)]; exact rs15 hr
  · rw [z _ (by omega) (by omega) (by omega), z _ (by omega) (by omega) (by omega), z _ (by omega) (by omega) (by omega), z _ (by omega) (by omega) (by omega), z _ (by omega) (by omega) (by omega), z _ (by omega) (by omega) (by omega), o 2 _ (by decide), o 3 _ (by decide), o 4 _ (by decide)]
    exact hr.2.2.1 i hi
  · rw [amo_5] at hi
    refine ⟨?_, fun y hy => ?_⟩
    · rw [amo_q (r := 6) (by decide), amo_q (r := 7) (by decide), amo_q (r := 8) (by decide), amo_q (r := 9) (by decide), eq]
      by_cases g : i = q
      · subst g
        rw [if_pos rfl, if_pos rfl, if_pos rfl, if_pos rfl, if_pos rfl, if_neg (by decide), if_neg (by decide), if_neg (by decide), zq 0 (by decide), zq 2 (by decide), zq 3 (by decide), zq 4 (by decide)]
        unfold am0n
        refine ⟨?_, ?_, ?_, ?_⟩
        · rw [wv_n (by omega), wv_n (by omega), wv_n (by omega), wv_n (by omega), wv_s]
        · rw [wv_n (by omega), wv_n (by omega), wv_s]
        · rw [wv_n (by omega), wv_s]
        · rw [wv_s]; rfl
      · rw [if_neg g, if_neg g, if_neg g, if_neg g, z _ (by omega) (by omega) (by omega), z _ (by omega) (by omega) (by omega), z _ (by omega) (by omega) (by omega), z _ (by omega) (by omega) (by omega)]
        exact (hr.2.2.2.1 i (by omega)).1
    · rw [amo_l hy n12, eq]
      by_cases g : i = q
      · subst g
        rw [if_pos rfl, wv_n (by omega), amn_l _ (by omega), clp_5 (by have := hmem y hy; omega) hx]
      · rw [if_neg g, z _ (by omega) (by omega) (by omega)]
        exact rqN hr (by omega) hy
  · rw [z _ (by omega) (by omega) (by omega), z _ (by omega) (by omega) (by omega), z _ (by omega) (by omega) (by omega), z _ (by omega) (by omega) (by omega), z _ (by omega) (by omega) (by omega), o 16 _ (by decide), o 17 _ (by decide), o 18 _ (by decide), o 19 _ (by decide), o 20 _ (by decide)]
    exact hr.2.2.2.2.1 i hi
  · rw [o 11 0 (by decide)] at hi
    rw [z _ (by omega) (by omega) (by omega), z _ (by omega) (by omega) (by omega), z _ (by omega) (by omega) (by omega), o 12 _ (by decide), o 13 _ (by decide), o 14 _ (by decide)]
    exact hr.2.2.2.2.2 i hi
theorem rel_rad {S s : Mem} {ν : Nat → Int} {m q d : Int} {n : Nat} (hr : rel S s ν) (hS : wfS S) (hC : wfC S s) (hn : s 11 0 = n) (hlt : s 11 0 < 12) : rel S (rad s m q d) (wv (wv (wv (wv ν (382 + 3 * n + 0) m) (382 + 3 * n + 1) q) (382 + 3 * n + 2) (sdm d)) 11 (s 11 0 + 1)) := by
  obtain ⟨n1, n12, c1, c4⟩ := wf_n hS
  obtain ⟨q0, q16, r0, r12⟩ := wf_r hS hC
  have en : (s 11 0).toNat = n := by omega
  have o : ∀ r j, r < 11 ∨ 14 < r → rad s m q d r j = s r j := fun r j hr => by unfold rad; rw [wr_na (by omega), wr_na (by omega), wr_na (by omega), wr_na (by omega)]
  have l : ∀ m' q', ln (rad s m q d) m' q' = ln s m' q' := fun _ _ => o _ _ (by decide)
  have e11 : rad s m q d 11 0 = s 11 0 + 1 := wr_s _ _ _ _
  have e12 : ∀ j, rad s m q d 12 j = if j = n then m else s 12 j := fun j => by unfold rad wr; rw [en]; by_cases g : j = n <;> simp [g]
  have e13 : ∀ j, rad s m q d 13 j = if j = n then q else s 13 j := fun j => by unfold rad wr; rw [en]; by_cases g : j = n <;> simp [g]
  have e14 : ∀ j, rad s m q d 14 j = if j = n then d else s 14 j := fun j => by unfold rad wr; rw [en]; by_cases g : j = n <;> simp [g]
  have z : ∀ j, j ≠ 11 → (∀ w, w < 3 → j ≠ 382 + 3 * n + w) → wv (wv (wv (wv ν (382 + 3 * n + 0) m) (382 + 3 * n + 1) q) (382 + 3 * n + 2) (sdm d)) 11 (s 11 0 + 1) j = ν j := fun j h1 h2 => by
    rw [wv_n h1, wv_n (h2 2 (by decide)), wv_n (h2 1 (by decide)), wv_n (h2 0 (by decide))]
  refine ⟨⟨?_, ?_, ?_, ?_, ?_, ?_, ?_, ?_, ?_⟩, ⟨?_, ?_, ?_, ?_, ?_, ?_, ?_, ?_⟩, fun i hi => ?_, fun i hi => ?_, fun i hi => ?_, fun i hi => ?_⟩
  · rw [z 0 (by omega) (by omega)]; exact rs0 hr
  · rw [z 1 (by omega) (by omega)]; exact rs1 hr
  · rw [z 2 (by omega) (by omega)]; exact rs2 hr
  · rw [z 3 (by omega) (by omega)]; exact rs3 hr
  · rw [z 4 (by omega) (by omega)]; exact rs4 hr
  · rw [z 5 (by omega) (by omega)]; exact rs5 hr
  · rw [z 6 (by omega) (by omega)]; exact rs6 hr
  · rw [z 8 (by omega) (by omega)]; exact rs8 hr
  · rw [z 16 (by omega) (by omega)]; exact rs16 hr
  · rw [z 7 (by omega) (by omega), o 0 5 (by decide)]; exact rs7 hr
  · rw [z 9 (by omega) (by omega), o 5 0 (by decide)]; exact rs9 hr
  · rw [z 10 (by omega) (by omega), o 0 6 (by decide)]; exact rs10 hr
  · rw [wv_s, e11]
  · rw [z 12 (by omega) (by omega), o 0 7 (by decide)]; exact rs12 hr
  · rw [z 13 (by omega) (by omega), o 0 8 (by decide)]; exact rs13 hr
  · rw [z 14 (by omega) (by omega), o 0 9 (by decide)]; exact rs14 hr
  · rw [z 15 (by omega) (by omega), o 0 10 (by decide)]; exact rs15 hr
  · rw [z _ (by omega) (by omega), z _ (by omega) (by omega), z _ (by omega) (by omega), z _ (by omega) (by omega), z _ (by omega) (by omega), z _ (by omega) (by omega), o 2 _ (by decide), o 3 _ (by decide), o 4 _ (by decide)]
    exact hr.2.2.1 i hi
  · rw [o 5 0 (by decide)] at hi
    refine ⟨?_, fun y hy => ?_⟩
    · rw [z _ (by omega) (by omega), z _ (by omega) (by omega), z _ (by omega) (by omega), z _ (by omega) (by omega), o 6 _ (by decide), o 7 _ (by decide), o 8 _ (by decide), o 9 _ (by decide)]
      exact (hr.2.2.2.1 i hi).1
    · rw [z _ (by omega) (by omega), l]
      exact rqN hr hi hy
  · rw [z _ (by omega) (by omega), z _ (by omega) (by omega), z _ (by omega) (by omega), z _ (by omega) (by omega), z _ (by omega) (by omega), o 16 _ (by decide), o 17 _ (by decide), o 18 _ (by decide), o 19 _ (by decide), o 20 _ (by decide)]
    exact hr.2.2.2.2.1 i hi
  · rw [e11] at hi
    rw [e12, e13, e14]
    by_cases g : i = n
    · subst g
      rw [if_pos rfl, if_pos rfl, if_pos rfl]
      refine ⟨?_, ?_, ?_⟩
      · rw [wv_n (by omega), wv_n (by omega), wv_n (by omega), wv_s]
      · rw [wv_n (by omega), wv_n (by omega), wv_s]
      · rw [wv_n (by omega), wv_s]
    · rw [if_neg g, if_neg g, if_neg g, z _ (by omega) (by omega), z _ (by omega) (by omega), z _ (by omega) (by omega)]
      exact hr.2.2.2.2.2 i (by omega)
/-! the model's history -/
def kp1 (σ : Mem) (k : Nat) : Mem := fun r j => if r = 4 ∧ j < k then σ 4 (j + 418) else σ r j
def kp2 (σ : Mem) (ν : Nat → Int) (u k : Nat) : Mem := fun r j => if r = 4 ∧ 418 * u ≤ j ∧ j < 418 * u + k then ν (j - 418 * u) else σ r j
def kp0 (σ : Mem) : Mem := if σ 0 6 = 8 then wr (kp1 σ 2926) 0 6 7 else σ
def kps (σ : Mem) (ν : Nat → Int) : Mem := wr (kp2 (kp0 σ) ν (kp0 σ 0 6).toNat 418) 0 6 (kp0 σ 0 6 + 1)
def chg (σ : Mem) (ν : Nat → Int) : Mem := if σ 0 24 = 0 then kps σ ν else σ
theorem kp1_s (σ : Mem) (k : Nat) : wr (kp1 σ k) 4 k (kp1 σ k 4 (k + 418)) = kp1 σ (k + 1) := by
  have e : kp1 σ k 4 (k + 418) = σ 4 (k + 418) := if_neg (by omega)
  rw [e]
  funext r j
  by_cases g : r = 4 ∧ j = k
  · obtain ⟨g1, g2⟩ := g
    subst g1 g2
    rw [wr_s]
    unfold kp1
    rw [if_pos (by omega)]
  · rw [wr_n g]
    unfold kp1
    by_cases c : r = 4 ∧ j < k
    · rw [if_pos c, if_pos (by omega)]
    · rw [if_neg c, if_neg (by omega)]
theorem kp2_s (σ : Mem) (ν : Nat → Int) (u k : Nat) : wr (kp2 σ ν u k) 4 (418 * u + k) (ν k) = kp2 σ ν u (k + 1) := by
  funext r j
  by_cases g : r = 4 ∧ j = 418 * u + k
  · obtain ⟨g1, g2⟩ := g
    subst g1 g2
    rw [wr_s]
    unfold kp2
    rw [if_pos (by omega)]
    congr 1; omega
  · rw [wr_n g]
    unfold kp2
    by_cases c : r = 4 ∧ 418 * u ≤ j ∧ j < 418 * u + k
    · rw [if_pos c, if_pos (by omega)]
    · rw [if_neg c, if_neg (by omega)]
theorem kp1_0 (σ : Mem) : kp1 σ 0 = σ := by funext r j; exact if_neg (by omega)
theorem kp2_0 (σ : Mem) (ν : Nat → Int) (u : Nat) : kp2 σ ν u 0 = σ := by funext r j; exact if_neg (by omega)
