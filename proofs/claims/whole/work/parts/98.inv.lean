/-! WHAT HOLDS OF BOTH BETWEEN TWO STEPS OF THE LAW -/
def INV (μ : Mem) : Prop :=
  (wfS (su μ) ∧ wfC (su μ) (vw 20 μ) ∧ rel (su μ) (vw 20 μ) (μ 277)) ∧
  (∀ m : Nat, (m : Int) < su μ 0 7 → isn 6 (su μ 1 m) ∧ 0 < su μ 1 m) ∧
  (∃ (f : Int → Int) (L : Nat), okT f L μ ∧ okB f L (vw 276 μ)) ∧
  (μ 3 4 = μ 276 10 ∧ μ 3 5 = μ 276 11) ∧
  (∃ h : Nat, h < 8 ∧ μ 62 1 = h ∧ 0 ≤ μ 62 2 ∧ μ 62 2 ≤ 8 ∧ μ 276 6 = μ 62 2 ∧ ∀ k : Nat, (k : Int) < μ 62 2 →
    wfC (su μ) (vw (64 + 21 * ((h + 7 - k) % 8)) μ) ∧ rel (su μ) (vw (64 + 21 * ((h + 7 - k) % 8)) μ) (fun j => μ 280 (418 * ((μ 62 2).toNat - 1 - k) + j))) ∧
  (∀ t : Nat, t < 2 → (μ 275 t = 0 ∨ μ 275 t = 1) ∧ μ 282 t = μ 275 t ∧ (μ 275 t = 1 → wfC (su μ) (vw (233 + 21 * t) μ) ∧ rel (su μ) (vw (233 + 21 * t) μ) (fun j => μ 281 (418 * t + j)))) ∧
  (∃ l : List Int, OL l μ ∧ OM l (vw 276 μ) ∧ l.length ≤ 142 ∧ ∀ c ∈ l, 0 ≤ c ∧ c < 128) ∧
  (μ 5003 0 = 0 ∧ chn (μ 5002 0) ∧ μ 5000 0 ≤ μ 5002 0) ∧ μ 276 24 = 0
/-- all that INV speaks of is the same -/
def sam (μ' μ : Mem) : Prop := (∀ b j : Nat, (b < 276 ∨ (276 < b ∧ b < 289 ∧ b ≠ 278 ∧ b ≠ 279) ∨ 5000 ≤ b) → μ' b j = μ b j) ∧ ∀ j : Nat, (j = 6 ∨ j = 9 ∨ j = 10 ∨ j = 11 ∨ j = 24 ∨ j = 26) → μ' 276 j = μ 276 j
theorem sam_t {a b c : Mem} (h : sam a b) (g : sam b c) : sam a c := ⟨fun r j w => (h.1 r j w).trans (g.1 r j w), fun j w => (h.2 j w).trans (g.2 j w)⟩
theorem sam_r (μ : Mem) : sam μ μ := ⟨fun _ _ _ => rfl, fun _ _ => rfl⟩
theorem sam_w {μ : Mem} {b i : Nat} {v : Int} (h : (289 ≤ b ∧ b < 5000) ∨ b = 278 ∨ b = 279 ∨ (b = 276 ∧ (i = 7 ∨ (12 ≤ i ∧ i < 24)))) : sam (wr μ b i v) μ := ⟨fun r j w => wr_n (by omega), fun j w => wr_n (by omega)⟩
theorem inv_sam {μ' μ : Mem} (h : INV μ) (g : sam μ' μ) : INV μ' := by
  obtain ⟨⟨a1, a2, a3⟩, b, ⟨f, L, ⟨c1, c2, c3⟩, c4⟩, d, ⟨hh, e1, e2, e3, e4, e5, e6⟩, fs, ⟨l, g1, g2, g3, g4⟩, k, m⟩ := h
  obtain ⟨s1, s2⟩ := g
  have eS : su μ' = su μ := su_f (fun b j h1 h2 => s1 b j (by omega))
  have ev : ∀ (o : Nat) (r j : Nat), o + r < 276 → vw o μ' r j = vw o μ r j := fun o r j hr => s1 (o + r) j (Or.inl hr)
  have wf : ∀ (o : Nat), o + 21 ≤ 276 → wfC (su μ) (vw o μ) → wfC (su μ) (vw o μ') := fun o ho w => wf_eq a1 w (eqC_of (fun r j hr => ev o r j (by omega)))
  have rl : ∀ (o : Nat) (ν : Nat → Int), o + 21 ≤ 276 → wfC (su μ) (vw o μ) → rel (su μ) (vw o μ) ν → rel (su μ) (vw o μ') ν := fun o ν ho w w2 => rel_eq a1 w w2 (eqC_of (fun r j hr => ev o r j (by omega)))
  have e277 : μ' 277 = μ 277 := funext (fun j => s1 277 j (by omega))
  have e280 : μ' 280 = μ 280 := funext (fun j => s1 280 j (by omega))
  have e281 : μ' 281 = μ 281 := funext (fun j => s1 281 j (by omega))
  unfold INV
  rw [eS, s1 62 1 (by omega), s1 62 2 (by omega), s1 3 4 (by omega), s1 3 5 (by omega), s2 10 (by omega), s2 11 (by omega), s2 6 (by omega), s2 24 (by omega), s1 5003 0 (by omega), s1 5002 0 (by omega), s1 5000 0 (by omega), e277, e280, e281]
  refine ⟨⟨a1, wf 20 (by decide) a2, rl 20 _ (by decide) a2 a3⟩, b, ⟨f, L, ⟨?_, ?_, ?_⟩, ?_⟩, d, ⟨hh, e1, e2, e3, e4, e5, fun k hk => ?_⟩, fun t ht => ?_, ⟨l, ?_, ?_, g3, g4⟩, k, m⟩
  · rw [← c1]
    funext j
    unfold tx
    rw [s1 1 1 (by omega), s1 2 _ (by omega)]
  · rw [s1 1 1 (by omega)]
    exact c2
  · obtain ⟨t0, t7, tb⟩ := c3
    exact ⟨by rw [s1 1 1 (by omega)]; exact t0, by rw [s1 1 1 (by omega)]; exact t7, fun k hk => by rw [s1 2 k (by omega)]; exact tb k hk⟩
  · obtain ⟨t1, t2, t3, t4⟩ := c4
    exact ⟨(s2 9 (by omega)).trans t1, t2, fun i hi => by rw [show vw 276 μ' 7 i = vw 276 μ 7 i from s1 283 i (by omega)]; exact t3 i hi, t4⟩
  · obtain ⟨q1, q2⟩ := e6 k hk
    have hm : (hh + 7 - k) % 8 < 8 := Nat.mod_lt _ (by decide)
    exact ⟨wf _ (by omega) q1, rl _ _ (by omega) q1 q2⟩
  · obtain ⟨q1, q2, q3⟩ := fs t ht
    rw [s1 275 t (by omega), s1 282 t (by omega)]
    exact ⟨q1, q2, fun w => ⟨wf _ (by omega) (q3 w).1, rl _ _ (by omega) (q3 w).1 (q3 w).2⟩⟩
  · exact ⟨(s1 5000 0 (by omega)).trans g1.1, fun j c hj => (s1 5001 j (by omega)).trans (g1.2 j c hj)⟩
  · exact ⟨(s2 26 (by omega)).trans g2.1, fun j c hj => (s1 288 j (by omega)).trans (g2.2 j c hj)⟩
