/-! NAMES BASE 32 AND BASE 27 -/
/-- x is a name of k letters at most, base 32 -/
def isn : Nat → Int → Prop
  | 0, x => x = 0
  | k + 1, x => x = 0 ∨ (0 < x ∧ 1 ≤ x % 32 ∧ x % 32 ≤ 26 ∧ isn k (x / 32))
theorem nk_0 : ∀ k, nk k 0 = 0
  | 0 => rfl
  | k + 1 => by
    rw [nk, show (0 : Int) / 32 = 0 from rfl, nk_0 k]
    rfl
theorem isn_0 : ∀ k, isn k 0
  | 0 => rfl
  | _ + 1 => Or.inl rfl
theorem isn_ge : ∀ (k : Nat) (x : Int), isn k x → 0 ≤ x
  | 0, x, h => by have h9 : x = 0 := h; omega
  | k + 1, x, h => by
    rcases h with h | h
    · omega
    · omega
theorem nk_p {f : Int → Int} : ∀ (m p j : Nat) (v : Int), ltr f m p = true → nk (j + m) (p32 f m p v) = p27 f m p (nk j v)
  | 0, _, _, _, _ => rfl
  | m + 1, p, j, v, hl => by
    rw [ltr] at hl
    by_cases g : kd (f (p : Int)) = 1
    · rw [if_pos g] at hl
      have h := kd_1.mp g
      have h9 := nk_p m (p + 1) (j + 1) (32 * v + (f (p : Int) - 97 + 1)) hl
      rw [p32, p27, show j + (m + 1) = j + 1 + m by omega, h9, nk]
      rw [show (32 * v + (f (p : Int) - 97 + 1)) / 32 = v by omega, show (32 * v + (f (p : Int) - 97 + 1)) % 32 = f (p : Int) - 96 by omega]
      congr 1
      omega
    · rw [if_neg g] at hl
      exact absurd hl (by decide)
theorem isn_p {f : Int → Int} : ∀ (m p j : Nat) (v : Int), ltr f m p = true → isn j v → isn (j + m) (p32 f m p v)
  | 0, _, _, _, _, hv => hv
  | m + 1, p, j, v, hl, hv => by
    rw [ltr] at hl
    by_cases g : kd (f (p : Int)) = 1
    · rw [if_pos g] at hl
      have h := kd_1.mp g
      have v0 := isn_ge j v hv
      rw [p32, show j + (m + 1) = j + 1 + m by omega]
      refine isn_p m (p + 1) (j + 1) _ hl (Or.inr ⟨by omega, by omega, by omega, ?_⟩)
      rw [show (32 * v + (f (p : Int) - 97 + 1)) / 32 = v by omega]
      exact hv
    · rw [if_neg g] at hl
      exact absurd hl (by decide)
theorem nk_ge : ∀ (k : Nat) (x : Int), isn k x → 0 ≤ nk k x
  | 0, _, _ => Int.le_refl 0
  | k + 1, x, h => by
    rcases h with h | h
    · rw [h, nk_0]; decide
    · have h9 := nk_ge k _ h.2.2.2
      rw [nk]
      omega
theorem nk_inj : ∀ (k : Nat) (x y : Int), isn k x → isn k y → nk k x = nk k y → x = y
  | 0, x, y, hx, hy, _ => by have h1 : x = 0 := hx; have h2 : y = 0 := hy; omega
  | k + 1, x, y, hx, hy, h => by
    rcases hx with hx | hx
    · rcases hy with hy | hy
      · omega
      · have h9 := nk_ge k _ hy.2.2.2
        rw [hx, nk_0, nk] at h
        omega
    · rcases hy with hy | hy
      · have h9 := nk_ge k _ hx.2.2.2
        rw [hy, nk_0, nk] at h
        omega
      · rw [nk, nk] at h
        have e1 : nk k (x / 32) = nk k (y / 32) := by omega
        have e2 := nk_inj k _ _ hx.2.2.2 hy.2.2.2 e1
        omega
/-- a name that was read: base 32 in the class, base 27 in the model -/
theorem n27_p {f : Int → Int} {m p : Nat} (hl : ltr f m p = true) (h6 : m ≤ 6) : n27 (p32 f m p 0) = p27 f m p 0 := by
  have h := nk_p m p (6 - m) 0 hl
  rw [nk_0, show 6 - m + m = 6 by omega] at h
  exact h
theorem isn_nbt {f : Int → Int} {b e : Nat} : isn 6 (nbt f b e) := by
  unfold nbt
  by_cases h6 : 6 < e - b
  · rw [if_pos h6]; exact isn_0 6
  · rw [if_neg h6]
    by_cases hl : ltr f (e - b) b = true
    · rw [if_pos hl]
      have h := isn_p (e - b) b (6 - (e - b)) 0 hl (isn_0 _)
      rw [show 6 - (e - b) + (e - b) = 6 by omega] at h
      exact h
    · rw [if_neg hl]; exact isn_0 6
theorem n27_iff {x y : Int} (hx : isn 6 x) (hy : isn 6 y) : n27 x = n27 y ↔ x = y := ⟨nk_inj 6 x y hx hy, fun h => by rw [h]⟩
/-- the two readings of the name that stands at the reader -/
theorem nmp_nbt {f : Int → Int} {L : Nat} {s : Nat × Int × Int} (h : (nms f L s).2.1 = 0) : nmp f L s = n27 (nbt f s.1 (tkE f L s.1)) := by
  obtain ⟨-, k, h6⟩ := nms_0 h
  have hl := ltr_tk (f := f) (L := L) (b := s.1) k
  unfold nmp nbt
  rw [if_pos h, if_neg (by omega), if_pos hl, n27_p hl h6]
