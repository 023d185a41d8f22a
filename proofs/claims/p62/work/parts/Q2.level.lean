/-! A CHAMBER just set up beside its Own -/
theorem mck_o {S s : Mem} {r j : Nat} (h : r < 2 ∨ 4 < r) : ∀ k, mck S s k r j = s r j
  | 0 => rfl
  | k + 1 => by rw [mck, wr_na (by omega), wr_na (by omega), wr_na (by omega), mck_o h k]
theorem mck_v {S s : Mem} {m : Nat} : ∀ k, m < k → mck S s k 2 m = S 4 m ∧ mck S s k 3 m = 5 ∧ mck S s k 4 m = 0
  | 0, h => by omega
  | k + 1, h => by
    rw [mck]
    by_cases g : m = k
    · subst g
      exact ⟨by rw [wr_na (by decide), wr_na (by decide), wr_s], by rw [wr_na (by decide), wr_s], wr_s _ _ _ _⟩
    · obtain ⟨a, b, c⟩ := mck_v (S := S) (s := s) (m := m) k (by omega)
      exact ⟨by rw [wr_na (by decide), wr_na (by decide), wr_ni g]; exact a, by rw [wr_na (by decide), wr_ni g, wr_na (by decide)]; exact b, by rw [wr_ni g, wr_na (by decide), wr_na (by decide)]; exact c⟩
/-- a chamber that was cleared -/
theorem clr_v (S s : Mem) : (clr S s 0 5 = 0 ∧ clr S s 0 6 = 0 ∧ clr S s 0 7 = 0 ∧ clr S s 0 8 = 0 ∧ clr S s 0 9 = 0 ∧ clr S s 0 10 = 0 ∧ clr S s 5 0 = 0 ∧ clr S s 11 0 = 0) ∧
    (∀ m : Nat, m < 12 → clr S s 2 m = S 4 m ∧ clr S s 3 m = 5 ∧ clr S s 4 m = 0) ∧ ∀ h : Nat, h < 4 → clr S s 16 h = -1 ∧ clr S s 19 h = 0 ∧ clr S s 20 h = 0 := by
  refine ⟨⟨?_, ?_, ?_, ?_, ?_, ?_, ?_, ?_⟩, fun m hm => ?_, fun h hh => ?_⟩
  · unfold clr; rw [wr_ni (by decide), wr_ni (by decide), wr_ni (by decide), wr_ni (by decide), wr_ni (by decide), wr_s]
  · unfold clr; rw [wr_ni (by decide), wr_ni (by decide), wr_ni (by decide), wr_ni (by decide), wr_s]
  · unfold clr; rw [wr_ni (by decide), wr_ni (by decide), wr_ni (by decide), wr_s]
  · unfold clr; rw [wr_ni (by decide), wr_ni (by decide), wr_s]
  · unfold clr; rw [wr_ni (by decide), wr_s]
  · unfold clr; rw [wr_s]
  · unfold clr
    rw [wr_na (by decide), wr_na (by decide), wr_na (by decide), wr_na (by decide), wr_na (by decide), wr_na (by decide)]
    unfold clk
    rw [if_neg (by omega), if_neg (by omega), wr_na (by decide), wr_s]
  · unfold clr
    rw [wr_na (by decide), wr_na (by decide), wr_na (by decide), wr_na (by decide), wr_na (by decide), wr_na (by decide)]
    unfold clk
    rw [if_neg (by omega), if_neg (by omega), wr_s]
  · have k : ∀ r, 2 ≤ r → r ≤ 4 → clr S s r m = mck S s 12 r m := fun r h1 h2 => by
      unfold clr
      rw [wr_na (by omega), wr_na (by omega), wr_na (by omega), wr_na (by omega), wr_na (by omega), wr_na (by omega)]
      unfold clk
      rw [if_neg (by omega), if_neg (by omega), wr_na (by omega), wr_na (by omega)]
    rw [k 2 (by decide) (by decide), k 3 (by decide) (by decide), k 4 (by decide) (by decide)]
    exact mck_v 12 hm
  · have k : ∀ r, r = 16 ∨ r = 19 ∨ r = 20 → clr S s r h = if r = 16 then -1 else 0 := fun r h1 => by
      unfold clr
      rw [wr_na (by omega), wr_na (by omega), wr_na (by omega), wr_na (by omega), wr_na (by omega), wr_na (by omega)]
      unfold clk
      by_cases g : r = 16
      · rw [if_pos ⟨hh, g⟩, if_pos g]
      · rw [if_neg (by omega), if_pos ⟨hh, by omega⟩, if_neg g]
    exact ⟨k 16 (by omega), k 19 (by omega), k 20 (by omega)⟩
theorem LV_new {w0 w1 w2 w3 w4 w5 w6 : Nat} (hw : (1 ≤ w0 ∧ w0 ≤ 4) ∧ w1 ≤ 5 ∧ (1 ≤ w2 ∧ w2 ≤ 20) ∧ w3 ≤ 20 ∧ (2 ≤ w4 ∧ w4 ≤ 30) ∧ w5 ≤ 9 ∧ w6 ≤ 12) {ms : List (Nat × Nat × Nat)} (hn : 1 ≤ ms.length ∧ ms.length ≤ 12) (ho : okM ms) {g : Int → Int} {n : Nat} {M μ' ν' : Mem} (hr : rdS g n (st0 g n) M = ((n, 0, -1), ν'))
    (h15 : ν' 15 0 = (w0 : Nat) ∧ ν' 15 1 = (w1 : Nat) ∧ ν' 15 2 = (w2 : Nat) ∧ ν' 15 3 = (w3 : Nat) ∧ ν' 15 4 = (w4 : Nat) ∧ ν' 15 5 = (w5 : Nat) ∧ ν' 15 6 = (w6 : Nat) ∧ ν' 15 7 = (ms.length : Nat)) (hrow : ∀ j x, ms[j]? = some x → ν' 17 j = (x.1 : Nat) ∧ ν' 18 j = (x.2.1 : Nat) ∧ ν' 19 j = (x.2.2 : Nat)) (ht : tkS g n M μ')
    (o0 : M 276 0 = (w0 : Nat) ∧ M 276 1 = (w1 : Nat) ∧ M 276 2 = (w2 : Nat) ∧ M 276 3 = (w3 : Nat) ∧ M 276 4 = (w4 : Nat) ∧ M 276 5 = (w5 : Nat) ∧ M 276 6 = (w6 : Nat) ∧ M 276 8 = (ms.length : Nat)) (oz : ∀ j, 7 ≤ j → j < 14 → j ≠ 8 → M 276 j = 0) (hm : MR ms M) (h5 : ∀ m, M 281 m = 0) (h7 : ∀ q, M 283 q = 0 ∧ M 284 q = 0 ∧ M 285 q = 0) (h11 : ∀ h, h < 4 → M 287 h = -1) (h14 : ∀ r, M 290 r = 0) : LV 0 (tkE9 μ') := by
  obtain ⟨⟨a0, b0⟩, b1, ⟨a2, b2⟩, b3, ⟨a4, b4⟩, b5, b6⟩ := hw
  obtain ⟨t1, -, -, -, t15, trow⟩ := ht
  rw [hr] at t15 trow
  obtain ⟨q0, q1, q2, q3, q4, q5, q6, q7⟩ := h15
  obtain ⟨ν, eν⟩ : ∃ ν, ν = tkE9 μ' := ⟨_, rfl⟩
  have eS : su ν = su μ' := by rw [eν]; unfold tkE9; rw [su_put (by decide), su_wr (Or.inl (by decide)), su_wr (Or.inl (by decide)), su_wr (Or.inl (by decide))]
  have es : ∀ r j, r < 21 → vw 20 ν r j = clr (su μ') (vw 20 μ') r j := fun r j h => by rw [eν]; exact put_r h
  have eo : ∀ r j, r < 17 → vw 276 ν r j = M (276 + r) j := fun r j h => by
    show ν (276 + r) j = _
    rw [eν]
    unfold tkE9
    rw [put_o (by omega), wr_na (by omega), wr_na (by omega), wr_na (by omega)]
    exact t1 _ _ (by omega) (by omega) (by omega)
  obtain ⟨S, hS⟩ : ∃ S, S = su μ' := ⟨_, rfl⟩
  obtain ⟨s, hs⟩ : ∃ s, s = vw 20 ν := ⟨_, rfl⟩
  obtain ⟨ω, hω⟩ : ∃ ω, ω = vw 276 ν := ⟨_, rfl⟩
  have S0 : ∀ j, j < 8 → S 0 j = ν' 15 j := fun j hj => by rw [hS]; exact (if_pos (by decide)).trans (t15 j hj)
  have Sr : ∀ r j, 1 ≤ r → r ≤ 4 → j < 12 → S r j = ν' (15 + r) j := fun r j h1 h2 hj => by rw [hS]; exact (if_pos (by omega)).trans (trow r j h1 h2 hj)
  have f0 := (S0 0 (by decide)).trans q0
  have f1 := (S0 1 (by decide)).trans q1
  have f2 := (S0 2 (by decide)).trans q2
  have f3 := (S0 3 (by decide)).trans q3
  have f4 := (S0 4 (by decide)).trans q4
  have f5 := (S0 5 (by decide)).trans q5
  have f6 := (S0 6 (by decide)).trans q6
  have f7 := (S0 7 (by decide)).trans q7
  obtain ⟨⟨k5, k6, k7, k8, k9, k10, k50, k11⟩, km, kh⟩ := clr_v S (vw 20 μ')
  have e (r j : Nat) (h : r < 21) : s r j = clr S (vw 20 μ') r j := by rw [hs, hS]; exact es r j h
  have s5 := (e 0 5 (by decide)).trans k5
  have s6 := (e 0 6 (by decide)).trans k6
  have s7 := (e 0 7 (by decide)).trans k7
  have s8 := (e 0 8 (by decide)).trans k8
  have s9 := (e 0 9 (by decide)).trans k9
  have s10 := (e 0 10 (by decide)).trans k10
  have s50 := (e 5 0 (by decide)).trans k50
  have s11 := (e 11 0 (by decide)).trans k11
  have sm : ∀ m : Nat, m < 12 → s 2 m = S 4 m ∧ s 3 m = 5 ∧ s 4 m = 0 := fun m hm => by
    rw [e 2 m (by decide), e 3 m (by decide), e 4 m (by decide)]
    exact km m hm
  have sh : ∀ h : Nat, h < 4 → s 16 h = -1 ∧ s 19 h = 0 ∧ s 20 h = 0 := fun h hh => by
    rw [e 16 h (by decide), e 19 h (by decide), e 20 h (by decide)]
    exact kh h hh
  have hx : ∀ m : Nat, (m : Int) < S 0 7 → m < 12 ∧ ∃ x : Nat × Nat × Nat, ms[m]? = some x ∧ (1 ≤ x.1 ∧ x.1 ≤ 9) ∧ x.2.1 ≤ 20 ∧ x.2.2 ≤ 11 ∧ S 2 m = (x.1 : Nat) ∧ S 3 m = (x.2.1 : Nat) ∧ S 4 m = (x.2.2 : Nat) := fun m hm => by
    have hlt : m < ms.length := by omega
    have hg : ms[m]? = some ms[m] := List.getElem?_eq_getElem hlt
    obtain ⟨y1, y2, y3⟩ := ho _ (List.mem_of_getElem? hg)
    obtain ⟨z1, z2, z3⟩ := hrow m _ hg
    exact ⟨by omega, ms[m], hg, y1, y2, y3, (Sr 2 m (by decide) (by decide) (by omega)).trans z1, (Sr 3 m (by decide) (by decide) (by omega)).trans z2, (Sr 4 m (by decide) (by decide) (by omega)).trans z3⟩
  have hwS : wfS S := ⟨by omega, by omega, by omega, by omega, by omega, by omega, by omega, by omega, by omega, by omega, by omega, by omega, by omega, by omega, by omega, by omega, fun m hm => by
    obtain ⟨-, x, -, x1, x2, x3, x4, x5, x6⟩ := hx m hm
    omega⟩
  have em : mrs s = 0 := smf_z (fun k hk => (sh k hk).2.2)
  have hwC : wfC S s := ⟨⟨by omega, by omega, by omega, by omega, by omega, by omega, by omega⟩, fun m h => by
    obtain ⟨g1, x, -, x1, x2, x3, x4, x5, x6⟩ := hx m h
    obtain ⟨p1, p2, p3⟩ := sm m g1
    omega, fun q hq => by omega, fun r hr => by omega, fun r k hr => by omega, fun h hh => Or.inl (sh h hh)⟩
  have eω (r j : Nat) (h : r < 17) : ω r j = M (276 + r) j := by rw [hω]; exact eo r j h
  obtain ⟨o1, o2, o3, o4, o5, o6, o7, o8⟩ := o0
  have hown : own S s ω := by
    refine ⟨⟨?_, ?_, ?_, ?_, ?_, ?_, ?_, ?_, ?_, ?_, ?_, ?_, ?_, ?_⟩, fun m h => ?_, fun q hq => by omega, fun q h1 h2 => ?_, fun h hh => ?_, fun r hr => ?_⟩
    · rw [eω 0 0 (by decide), f0]; exact o1
    · rw [eω 0 1 (by decide), f1]; exact o2
    · rw [eω 0 2 (by decide), f2]; exact o3
    · rw [eω 0 3 (by decide), f3]; exact o4
    · rw [eω 0 4 (by decide), f4]; exact o5
    · rw [eω 0 5 (by decide), f5]; exact o6
    · rw [eω 0 6 (by decide), f6]; exact o7
    · rw [eω 0 7 (by decide), s5]; exact oz 7 (by decide) (by decide) (by decide)
    · rw [eω 0 8 (by decide), f7]; exact o8
    · rw [eω 0 9 (by decide), s50]; exact oz 9 (by decide) (by decide) (by decide)
    · rw [eω 0 10 (by decide), s6]; exact oz 10 (by decide) (by decide) (by decide)
    · rw [eω 0 11 (by decide), s7]; exact oz 11 (by decide) (by decide) (by decide)
    · rw [eω 0 12 (by decide), s8]; exact oz 12 (by decide) (by decide) (by decide)
    · rw [eω 0 13 (by decide), s9]; exact oz 13 (by decide) (by decide) (by decide)
    · obtain ⟨g1, x, hg, x1, x2, x3, x4, x5, x6⟩ := hx m h
      obtain ⟨p1, p2, p3⟩ := sm m g1
      obtain ⟨r1, r2, r3, r4⟩ := hm m x hg
      rw [eω 1 m (by decide), eω 2 m (by decide), eω 3 m (by decide), eω 4 m (by decide), eω 5 m (by decide), p1, p2, p3, x4, x5, x6]
      exact ⟨r1, r2, r3, r4, h5 m⟩
    · rw [eω 7 q (by decide), eω 8 q (by decide), eω 9 q (by decide)]
      exact h7 q
    · rw [eω 11 h (by decide), (sh h hh).1]
      exact ⟨h11 h hh, fun w => absurd rfl w⟩
    · rw [eω 14 r (by decide), if_neg (by omega)]
      exact h14 r
  have hzro : zro S s := by
    refine ⟨?_, ?_, fun r h hr => by omega, fun r hr => by omega⟩
    · refine congrArg iI ?_
      unfold mny
      rw [s7, s10, show smf (fun m => s 2 m) (S 0 7).toNat = smf (fun m => S 4 m) (S 0 7).toNat from smf_cong (fun k hk => (sm k (by omega)).1)]
      omega
    · rw [s8, s50]
      rfl
  rw [← eν]
  refine ⟨?_, ?_⟩
  · rw [eS, ← hS]; exact hwS
  · rw [eS, ← hS, ← hs, ← hω]
    exact ⟨hwC, hown, hzro, fun m h => by
      obtain ⟨g1, -⟩ := hx m h
      obtain ⟨p1, p2, p3⟩ := sm m g1
      omega, by omega, by omega⟩
