/-! WHAT HOLDS, PIECE BY PIECE -/
theorem rel_n {S s : Mem} {ν ν' : Nat → Int} (hS : wfS S) (hC : wfC S s) (hr : rel S s ν) (h : ∀ j, j < 418 → ν' j = ν j) : rel S s ν' := by
  obtain ⟨n1, n12, c1, c4⟩ := wf_n hS
  obtain ⟨q0, q16, r0, r12⟩ := wf_r hS hC
  obtain ⟨⟨a0, a1, a2, a3, a4, a5, a6, a7, a8⟩, ⟨b0, b1, b2, b3, b4, b5, b6, b7⟩, b, c, d, e⟩ := hr
  refine ⟨⟨(h _ (by decide)).trans a0, (h _ (by decide)).trans a1, (h _ (by decide)).trans a2, (h _ (by decide)).trans a3, (h _ (by decide)).trans a4, (h _ (by decide)).trans a5, (h _ (by decide)).trans a6, (h _ (by decide)).trans a7, (h _ (by decide)).trans a8⟩,
    ⟨(h _ (by decide)).trans b0, (h _ (by decide)).trans b1, (h _ (by decide)).trans b2, (h _ (by decide)).trans b3, (h _ (by decide)).trans b4, (h _ (by decide)).trans b5, (h _ (by decide)).trans b6, (h _ (by decide)).trans b7⟩, fun m hm => ?_, fun q hq => ?_, fun i hi => ?_, fun r hr => ?_⟩
  · obtain ⟨g0, g1, g2, g3, g4, g5⟩ := b m hm
    exact ⟨(h _ (by omega)).trans g0, (h _ (by omega)).trans g1, (h _ (by omega)).trans g2, (h _ (by omega)).trans g3, (h _ (by omega)).trans g4, (h _ (by omega)).trans g5⟩
  · obtain ⟨⟨g0, g1, g2, g3⟩, g4⟩ := c q hq
    exact ⟨⟨(h _ (by omega)).trans g0, (h _ (by omega)).trans g1, (h _ (by omega)).trans g2, (h _ (by omega)).trans g3⟩, fun m hm => (h _ (by omega)).trans (g4 m hm)⟩
  · obtain ⟨g0, g1⟩ := d i hi
    refine ⟨(h _ (by omega)).trans g0, fun ho => ?_⟩
    obtain ⟨g2, g3, g4, g5⟩ := g1 ho
    exact ⟨(h _ (by omega)).trans g2, (h _ (by omega)).trans g3, (h _ (by omega)).trans g4, (h _ (by omega)).trans g5⟩
  · obtain ⟨g0, g1, g2⟩ := e r hr
    exact ⟨(h _ (by omega)).trans g0, (h _ (by omega)).trans g1, (h _ (by omega)).trans g2⟩
def iCh (μ : Mem) : Prop := wfS (su μ) ∧ wfC (su μ) (vw 20 μ) ∧ rel (su μ) (vw 20 μ) (μ 277)
def iNm (μ : Mem) : Prop := ∀ m : Nat, (m : Int) < su μ 0 7 → isn 6 (su μ 1 m) ∧ 0 < su μ 1 m
def iTx (μ : Mem) : Prop := ∃ (f : Int → Int) (L : Nat), okT f L μ ∧ okB f L (vw 276 μ)
def iEr (μ : Mem) : Prop := μ 3 4 = μ 276 10 ∧ μ 3 5 = μ 276 11
def iHs (μ : Mem) : Prop := ∃ h : Nat, h < 8 ∧ μ 62 1 = h ∧ 0 ≤ μ 62 2 ∧ μ 62 2 ≤ 8 ∧ μ 276 6 = μ 62 2 ∧ ∀ k : Nat, (k : Int) < μ 62 2 →
    wfC (su μ) (vw (64 + 21 * ((h + 7 - k) % 8)) μ) ∧ rel (su μ) (vw (64 + 21 * ((h + 7 - k) % 8)) μ) (fun j => μ 280 (418 * ((μ 62 2).toNat - 1 - k) + j))
def iSl (μ : Mem) : Prop := ∀ t : Nat, t < 2 → (μ 275 t = 0 ∨ μ 275 t = 1) ∧ μ 282 t = μ 275 t ∧ (μ 275 t = 1 → wfC (su μ) (vw (233 + 21 * t) μ) ∧ rel (su μ) (vw (233 + 21 * t) μ) (fun j => μ 281 (418 * t + j)))
def iOu (μ : Mem) : Prop := ∃ l : List Int, OL l μ ∧ OM l (vw 276 μ) ∧ l.length ≤ 142 ∧ ∀ c ∈ l, 0 ≤ c ∧ c < 128
def iBu (μ : Mem) : Prop := μ 5003 0 = 0 ∧ chn (μ 5002 0) ∧ μ 5000 0 ≤ μ 5002 0
theorem inv_mk {μ : Mem} (a : iCh μ) (b : iNm μ) (c : iTx μ) (d : iEr μ) (e : iHs μ) (f : iSl μ) (g : iOu μ) (k : iBu μ) (m : μ 276 24 = 0) : INV μ := ⟨a, b, c, d, e, f, g, k, m⟩
theorem inv_at {μ : Mem} (h : INV μ) : iCh μ ∧ iNm μ ∧ iTx μ ∧ iEr μ ∧ iHs μ ∧ iSl μ ∧ iOu μ ∧ iBu μ ∧ μ 276 24 = 0 := h
section Kept
variable {μ' μ : Mem}
theorem kCh {S t : Mem} (hS : wfS S) (ht : wfC S t) (hr : rel S t (μ' 277)) (e : su μ' = S) (h : ∀ r j, r < 21 → μ' (20 + r) j = t r j) : iCh μ' := by
  have q : eqC (vw 20 μ') t := eqC_of (fun r j hr => h r j hr)
  unfold iCh
  rw [e]
  exact ⟨hS, wf_eq hS ht q, rel_eq hS ht hr q⟩
theorem kNm (e : su μ' = su μ) (h : iNm μ) : iNm μ' := by
  unfold iNm
  rw [e]
  exact h
theorem kTx (h1 : μ' 1 1 = μ 1 1) (h2 : ∀ k, μ' 2 k = μ 2 k) (h9 : μ' 276 9 = μ 276 9) (h7 : ∀ i, μ' 283 i = μ 283 i) (h : iTx μ) : iTx μ' := by
  obtain ⟨f, L, ⟨c1, c2, c3⟩, t1, t2, t3, t4⟩ := h
  refine ⟨f, L, ⟨?_, h1.trans c2, ?_⟩, ⟨h9.trans t1, t2, fun i hi => ?_, t4⟩⟩
  · rw [← c1]
    funext j
    unfold tx
    rw [h1, h2]
  · obtain ⟨t0, t7, tb⟩ := c3
    exact ⟨by rw [h1]; exact t0, by rw [h1]; exact t7, fun k hk => by rw [h2 k]; exact tb k hk⟩
  · rw [show vw 276 μ' 7 i = vw 276 μ 7 i from h7 i]
    exact t3 i hi
theorem kEr (h4 : μ' 3 4 = μ 3 4) (h5 : μ' 3 5 = μ 3 5) (ha : μ' 276 10 = μ 276 10) (hb : μ' 276 11 = μ 276 11) (h : iEr μ) : iEr μ' := ⟨by rw [h4, ha]; exact h.1, by rw [h5, hb]; exact h.2⟩
theorem kHs (hS : wfS (su μ)) (e : su μ' = su μ) (hk : ∀ b j, 64 ≤ b → b < 232 → μ' b j = μ b j) (h1 : μ' 62 1 = μ 62 1) (h2 : μ' 62 2 = μ 62 2) (h6 : μ' 276 6 = μ 276 6) (hp : ∀ j, μ' 280 j = μ 280 j) (h : iHs μ) : iHs μ' := by
  obtain ⟨hh, e1, e2, e3, e4, e5, e6⟩ := h
  unfold iHs
  rw [e, h1, h2, h6]
  refine ⟨hh, e1, e2, e3, e4, e5, fun k hk2 => ?_⟩
  obtain ⟨q1, q2⟩ := e6 k hk2
  have hm : (hh + 7 - k) % 8 < 8 := Nat.mod_lt _ (by decide)
  have q : eqC (vw (64 + 21 * ((hh + 7 - k) % 8)) μ') (vw (64 + 21 * ((hh + 7 - k) % 8)) μ) := eqC_of (fun r j hr => hk _ _ (by omega) (by omega))
  rw [show (fun j => μ' 280 (418 * ((μ 62 2).toNat - 1 - k) + j)) = fun j => μ 280 (418 * ((μ 62 2).toNat - 1 - k) + j) from funext (fun j => hp _)]
  exact ⟨wf_eq hS q1 q, rel_eq hS q1 q2 q⟩
theorem kSl (hS : wfS (su μ)) (e : su μ' = su μ) (hk : ∀ b j, 233 ≤ b → b < 275 → μ' b j = μ b j) (h1 : ∀ t, μ' 275 t = μ 275 t) (h2 : ∀ t, μ' 282 t = μ 282 t) (hp : ∀ j, μ' 281 j = μ 281 j) (h : iSl μ) : iSl μ' := by
  intro t ht
  rw [e, h1 t, h2 t]
  obtain ⟨q1, q2, q3⟩ := h t ht
  refine ⟨q1, q2, fun w => ?_⟩
  obtain ⟨g1, g2⟩ := q3 w
  have q : eqC (vw (233 + 21 * t) μ') (vw (233 + 21 * t) μ) := eqC_of (fun r j hr => hk _ _ (by omega) (by omega))
  rw [show (fun j => μ' 281 (418 * t + j)) = fun j => μ 281 (418 * t + j) from funext (fun j => hp _)]
  exact ⟨wf_eq hS g1 q, rel_eq hS g1 g2 q⟩
theorem kOu (h0 : μ' 5000 0 = μ 5000 0) (h1 : ∀ j, μ' 5001 j = μ 5001 j) (h6 : μ' 276 26 = μ 276 26) (h8 : ∀ j, μ' 288 j = μ 288 j) (h : iOu μ) : iOu μ' := by
  obtain ⟨l, g1, g2, g3, g4⟩ := h
  exact ⟨l, ⟨h0.trans g1.1, fun j c hj => (h1 j).trans (g1.2 j c hj)⟩, ⟨h6.trans g2.1, fun j c hj => (h8 j).trans (g2.2 j c hj)⟩, g3, g4⟩
theorem kBu (h0 : μ' 5000 0 = μ 5000 0) (h2 : μ' 5002 0 = μ 5002 0) (h3 : μ' 5003 0 = μ 5003 0) (h : iBu μ) : iBu μ' := by
  unfold iBu
  rw [h0, h2, h3]
  exact h
/-- what INV hangs on: neither the reader's course nor draft, forecast, script -/
def hng (b j : Nat) : Prop := (b = 1 ∧ j = 1) ∨ b = 2 ∨ (b = 3 ∧ (j = 4 ∨ j = 5)) ∨ (10 ≤ b ∧ b < 15) ∨ (20 ≤ b ∧ b < 41) ∨ (62 ≤ b ∧ b < 276) ∨ (b = 276 ∧ (j = 6 ∨ j = 9 ∨ j = 10 ∨ j = 11 ∨ j = 24 ∨ j = 26)) ∨ (280 ≤ b ∧ b < 284) ∨ b = 288 ∨ 5000 ≤ b
theorem inv_sam2 (h : INV μ) (hn : ∀ j, j < 418 → μ' 277 j = μ 277 j) (g : ∀ b j, hng b j → μ' b j = μ b j) : INV μ' := by
  obtain ⟨⟨a1, a2, a3⟩, b, c, d, e, f, o, k, m⟩ := inv_at h
  have eS : su μ' = su μ := su_f (fun b j h1 h2 => g b j (by unfold hng; omega))
  refine inv_mk (kCh a1 a2 (rel_n a1 a2 a3 hn) eS (fun r j hr => g _ _ (by unfold hng; omega))) (kNm eS b) (kTx ?_ (fun i => ?_) ?_ (fun i => ?_) c) (kEr ?_ ?_ ?_ ?_ d) (kHs a1 eS (fun b j _ _ => ?_) ?_ ?_ ?_ (fun i => ?_) e) (kSl a1 eS (fun b j _ _ => ?_) (fun i => ?_) (fun i => ?_) (fun i => ?_) f) (kOu ?_ (fun i => ?_) ?_ (fun i => ?_) o) (kBu ?_ ?_ ?_ k) ((?_ : μ' 276 24 = μ 276 24).trans m)
  all_goals exact g _ _ (by unfold hng; omega)
end Kept
/-! HISTORY -/
theorem kps_t {σ : Mem} {ν : Nat → Int} {c : Nat} (hc : σ 0 6 = c) (h8 : c ≤ 8) : kps σ ν 0 6 = min ((c : Int) + 1) 8 ∧
    (∀ j, j < 418 → kps σ ν 4 (418 * (min (c + 1) 8 - 1) + j) = ν j) ∧ ∀ k j : Nat, 1 ≤ k → k < min (c + 1) 8 → j < 418 → kps σ ν 4 (418 * (min (c + 1) 8 - 1 - k) + j) = σ 4 (418 * (c - 1 - (k - 1)) + j) := by
  by_cases g : c = 8
  · subst g
    have e0 : kp0 σ = wr (kp1 σ 2926) 0 6 7 := if_pos hc
    unfold kps
    rw [e0, wr_s, wr_s]
    refine ⟨by decide, fun j hj => ?_, fun k j h1 h2 hj => ?_⟩
    · rw [wr_na (by decide)]
      unfold kp2
      rw [if_pos ⟨rfl, by omega, by omega⟩, show 418 * (min (8 + 1) 8 - 1) + j - 418 * (7 : Int).toNat = j by omega]
    · rw [wr_na (by decide)]
      unfold kp2
      rw [if_neg (by omega), wr_na (by decide)]
      unfold kp1
      rw [if_pos ⟨rfl, by omega⟩, show 418 * (min (8 + 1) 8 - 1 - k) + j + 418 = 418 * (8 - 1 - (k - 1)) + j by omega]
  · have e0 : kp0 σ = σ := if_neg (by omega)
    unfold kps
    rw [e0, wr_s, hc]
    refine ⟨by omega, fun j hj => ?_, fun k j h1 h2 hj => ?_⟩
    · rw [wr_na (by decide)]
      unfold kp2
      rw [if_pos ⟨rfl, by omega, by omega⟩, show 418 * (min (c + 1) 8 - 1) + j - 418 * ((c : Int)).toNat = j by omega]
    · rw [wr_na (by decide)]
      unfold kp2
      rw [if_neg (by omega), show 418 * (min (c + 1) 8 - 1 - k) + j = 418 * (c - 1 - (k - 1)) + j by omega]
theorem inv_hst {μ μ2 τ : Mem} (hI : INV μ) {h : Nat} (hh : h < 8) (h1 : μ 62 1 = h) (hτ : eqC τ (vw 20 μ)) (hsu : su μ2 = su μ)
    (eτ : ∀ r j, r < 21 → μ2 (64 + 21 * h + r) j = τ r j) (eo : ∀ b j, 64 ≤ b → b < 232 → (b < 64 + 21 * h ∨ 64 + 21 * h + 21 ≤ b) → μ2 b j = μ b j)
    (e1 : μ2 62 1 = if h < 7 then (h : Int) + 1 else 0) (e2 : μ2 62 2 = min (μ 62 2 + 1) 8) (e6 : μ2 276 6 = kps (vw 276 μ) (μ 277) 0 6) (e280 : ∀ j, μ2 280 j = kps (vw 276 μ) (μ 277) 4 j) : iHs μ2 := by
  obtain ⟨⟨a1, a2, a3⟩, -, -, -, ⟨h', w1, w2, w3, w4, w5, w6⟩, -⟩ := inv_at hI
  have eh : h' = h := by omega
  subst eh
  obtain ⟨c, hc⟩ := Int.eq_ofNat_of_zero_le w3
  rw [hc] at w4 w5 w6 e2
  have hc8 : c ≤ 8 := by omega
  obtain ⟨k6, k4, kr⟩ := kps_t (σ := vw 276 μ) (ν := μ 277) (c := c) w5 hc8
  have q0 : eqC (vw (64 + 21 * h') μ2) (vw 20 μ) := eqC_tr (eqC_of (fun r j hr => eτ r j hr)) hτ
  have e2' : μ2 62 2 = ((min (c + 1) 8 : Nat) : Int) := by rw [e2]; omega
  refine ⟨if h' < 7 then h' + 1 else 0, by split <;> omega, ?_, by rw [e2']; omega, by rw [e2']; omega, by rw [e6, k6, e2], fun k hk => ?_⟩
  · rw [e1]
    split <;> omega
  · rw [hsu, e2', Int.toNat_natCast]
    rw [e2'] at hk
    by_cases g : k = 0
    · subst g
      have ei : ((if h' < 7 then h' + 1 else 0) + 7 - 0) % 8 = h' := by split <;> omega
      rw [ei]
      refine ⟨wf_eq a1 a2 q0, rel_n a1 (wf_eq a1 a2 q0) (rel_eq a1 a2 a3 q0) (fun j hj => ?_)⟩
      show μ2 280 (418 * (min (c + 1) 8 - 1 - 0) + j) = μ 277 j
      rw [e280]
      exact k4 j hj
    · obtain ⟨g1, g2⟩ := w6 (k - 1) (by omega)
      have ei : ((if h' < 7 then h' + 1 else 0) + 7 - k) % 8 = (h' + 7 - (k - 1)) % 8 := by split <;> omega
      have hm : (h' + 7 - (k - 1)) % 8 < 8 := Nat.mod_lt _ (by decide)
      have hne : (h' + 7 - (k - 1)) % 8 ≠ h' := by omega
      rw [ei]
      have q : eqC (vw (64 + 21 * ((h' + 7 - (k - 1)) % 8)) μ2) (vw (64 + 21 * ((h' + 7 - (k - 1)) % 8)) μ) := eqC_of (fun r j hr => eo _ _ (by omega) (by omega) (by omega))
      refine ⟨wf_eq a1 g1 q, rel_n a1 (wf_eq a1 g1 q) (rel_eq a1 g1 g2 q) (fun j hj => ?_)⟩
      show μ2 280 (418 * (min (c + 1) 8 - 1 - k) + j) = μ 280 (418 * (((c : Nat) : Int).toNat - 1 - (k - 1)) + j)
      rw [e280, kr k j (by omega) (by omega) hj, Int.toNat_natCast]
      rfl
