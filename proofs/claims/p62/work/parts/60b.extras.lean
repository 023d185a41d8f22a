/-! of readings without an error -/
theorem num3_0 {f : Int → Int} {L : Nat} {s : Nat × Int × Int} {a m : Int} (h : (num3 f L s a m).2.1 = 0) : s.2.1 = 0 ∧ tkK f s.1 = 2 ∧ a ≤ nmv f L s.1 ∧ nmv f L s.1 ≤ m := by
  unfold num3 at h
  by_cases g : s.2.1 = 0
  · by_cases k : tkK f s.1 = 2
    · rw [mus_t k] at h
      by_cases r : a ≤ nmv f L s.1 ∧ nmv f L s.1 ≤ m
      · exact ⟨g, k, r⟩
      · rw [mus_f g r, gon_c (s := (s.1, 2, (s.1 : Int))) (show (2 : Int) ≠ 0 by decide)] at h
        exact absurd h (show (2 : Int) ≠ 0 by decide)
    · rw [mus_f g k, mus_c (s := (s.1, 1, (s.1 : Int))) (show (1 : Int) ≠ 0 by decide), gon_c (s := (s.1, 1, (s.1 : Int))) (show (1 : Int) ≠ 0 by decide)] at h
      exact absurd h (show (1 : Int) ≠ 0 by decide)
  · rw [mus_c g, mus_c g, gon_c g] at h
    exact absurd h g
theorem mus_1 {s : Nat × Int × Int} {p : Prop} [Decidable p] {i : Int} : (mus s p i).1 = s.1 := by
  unfold mus
  split <;> rfl
theorem nms_0 {f : Int → Int} {L : Nat} {s : Nat × Int × Int} (h : (nms f L s).2.1 = 0) : s.2.1 = 0 ∧ tkK f s.1 = 1 ∧ tkE f L s.1 - s.1 ≤ 6 := by
  unfold nms at h
  by_cases g : s.2.1 = 0
  · by_cases k : tkK f s.1 = 1
    · rw [mus_t k] at h
      by_cases r : ¬ 6 < tkE f L s.1 - s.1
      · exact ⟨g, k, by omega⟩
      · rw [mus_f g r] at h
        exact absurd h (show (2 : Int) ≠ 0 by decide)
    · rw [mus_f g k, mus_c (s := (s.1, 1, (s.1 : Int))) (show (1 : Int) ≠ 0 by decide)] at h
      exact absurd h (show (1 : Int) ≠ 0 by decide)
  · rw [mus_c g, mus_c g] at h
    exact absurd h g
