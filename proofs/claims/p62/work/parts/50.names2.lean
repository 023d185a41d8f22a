/-! NAMES, 2 -/
theorem p32_b {f : Int → Int} : ∀ (m p : Nat) (v w : Int), ltr f m p = true → 0 ≤ v → v < w → 0 ≤ p32 f m p v ∧ p32 f m p v < w * 32 ^ m
  | 0, p, v, w, _, h0, h1 => by rw [p32, Int.pow_zero, Int.mul_one]; exact ⟨h0, h1⟩
  | m + 1, p, v, w, hl, h0, h1 => by
    rw [ltr] at hl
    by_cases g : kd (f (p : Int)) = 1
    · rw [if_pos g] at hl
      have h := kd_1.mp g
      have h9 := p32_b m (p + 1) (32 * v + (f (p : Int) - 97 + 1)) (w * 32) hl (by omega) (by omega)
      rw [p32, Int.pow_succ, Int.mul_comm (32 ^ m) 32, ← Int.mul_assoc]
      exact h9
    · rw [if_neg g] at hl
      exact absurd hl (by decide)
theorem nbt_b (f : Int → Int) (b e : Nat) : 0 ≤ nbt f b e ∧ nbt f b e < 1073741824 := by
  unfold nbt
  by_cases h6 : 6 < e - b
  · rw [if_pos h6]; decide
  · rw [if_neg h6]
    by_cases hl : ltr f (e - b) b = true
    · rw [if_pos hl]
      have h := p32_b (e - b) b 0 1 hl (by decide) (by decide)
      rw [Int.one_mul] at h
      have e9 : e - b = 0 ∨ e - b = 1 ∨ e - b = 2 ∨ e - b = 3 ∨ e - b = 4 ∨ e - b = 5 ∨ e - b = 6 := by omega
      rcases e9 with e9 | e9 | e9 | e9 | e9 | e9 | e9 <;> rw [e9] at h ⊢ <;> omega
    · rw [if_neg hl]; decide
/-- three musts are one take -/
theorem mus3 {s : Nat × Int × Int} {p q r : Prop} [Decidable p] [Decidable q] [Decidable r] : mus (mus (mus s p 1) q 2) r 3 = mus s ((if ¬ p then (1 : Int) else if ¬ q then 2 else if ¬ r then 3 else 0) = 0) (if ¬ p then 1 else if ¬ q then 2 else if ¬ r then 3 else 0) := by
  by_cases g : s.2.1 = 0
  · by_cases hp : p
    · rw [mus_t hp, if_neg (fun w => w hp)]
      by_cases hq : q
      · rw [mus_t hq, if_neg (fun w => w hq)]
        by_cases hr : r
        · rw [mus_t hr, if_neg (fun w => w hr), mus_t rfl]
        · rw [if_pos hr, mus_f g hr, mus_f g (by decide)]
      · rw [if_pos hq, mus_f g hq, mus_c (s := (s.1, 2, (s.1 : Int))) (show (2 : Int) ≠ 0 by decide), mus_f g (by decide)]
    · rw [if_pos hp, mus_f g hp, mus_c (s := (s.1, 1, (s.1 : Int))) (show (1 : Int) ≠ 0 by decide), mus_c (s := (s.1, 1, (s.1 : Int))) (show (1 : Int) ≠ 0 by decide), mus_f g (by decide)]
  · rw [mus_c g, mus_c g, mus_c g, mus_c g]
section Names2
variable {ρ : Nat → Int} {μ : Mem} {L : Nat} {s : Nat × Int × Int}
set_option maxRecDepth 8000 in
set_option maxHeartbeats 4000000 in
theorem t_name (hL : μ 1 1 = L) (hT : wfT μ) (hr : rok (tx μ) L s ρ) {Q : Option Value → Mem → Prop} {X : String → Mem → Prop} (K : ∀ v, v = nbt (tx μ) s.1 (tkE (tx μ) L s.1) → 0 ≤ v ∧ v < 1073741824 → Q (some (.int (iI v))) (pr ρ μ)) : mt 276 2 0 0 mX9_name [.ref 3] Q X (pr ρ μ) := by
  show go 276 2 0 0 mX9_name Q X 0 [.ref 3] [] _
  obtain ⟨h1, h2, h3, h4, h5, h6⟩ := hr
  have hL7 : L ≤ 700 := by have := hT.2.1; omega
  have tb := tkE_b (b := s.1) h6 (tx_L hL)
  refine go_aload_n (y := mX9_name) (pc := 0) dX9_name_0 rfl rfl ?_
  refine go_getR (y := mX9_name) (pc := 1) dX9_name_1 fl_X9_9 rfl rfl (by decide) ?_
  refine go_aload_n (y := mX9_name) (pc := 4) dX9_name_4 rfl rfl ?_
  refine go_rget (y := mX9_name) (pc := 5) dX9_name_5 fl_X9_28 rfl rfl (by decide) (fun r5 => ?_)
  refine go_top (b := ((s.1 : Nat) : Int)) (h2) (fun t5 => ?_)
  refine go_aload_n (y := mX9_name) (pc := 8) dX9_name_8 rfl rfl ?_
  refine go_rget (y := mX9_name) (pc := 9) dX9_name_9 fl_X9_22 rfl rfl (by decide) (fun r9 => ?_)
  refine go_top (b := ((tkE (tx μ) L s.1 : Nat) : Int)) (h3) (fun t9 => ?_)
  refine go_callV2 (y := mX9_name) (pc := 12) (y' := mX8_nameBetween) (kc2 := 0) (ks2 := 0) dX9_name_12 ml_X9_83 ok_X8_nameBetween (show shp 1 = _ from rfl) ⟨_, _, rfl⟩ (by decide) ⟨rfl, rfl⟩ (by decide) (Nat.le_of_ble_eq_true rfl) rfl (t_nameBetween (b := s.1) (e := tkE (tx μ) L s.1) (wfT_pr hT) tb.1 (by omega) (fun v12 e12 => ?_))
  rw [tx_pr] at e12
  refine go_ireturn (y := mX9_name) (pc := 15) dX9_name_15 rfl ?_
  exact K v12 e12 (by rw [e12]; exact nbt_b _ _ _)
end Names2
