/-! of texts: what both sides of whole stood on -/
theorem kd_1 {c : Int} : kd c = 1 ↔ 97 ≤ c ∧ c ≤ 122 := by unfold kd; (repeat' split) <;> omega
theorem kd_2 {c : Int} : kd c = 2 ↔ 48 ≤ c ∧ c ≤ 57 := by unfold kd; (repeat' split) <;> omega
theorem kd_b (c : Int) : 0 ≤ kd c ∧ kd c ≤ 4 := by unfold kd; (repeat' split) <;> omega
theorem wr_id {σ : Mem} {a i : Nat} {v : Int} (h : σ a i = v) : wr σ a i v = σ := by
  funext b j
  unfold wr
  by_cases g : b = a ∧ j = i
  · rw [if_pos g, g.1, g.2, h]
  · rw [if_neg g]
def tkT (f : Int → Int) (b : Nat) : Int := if tkK f b = 3 then (if f b = 59 ∨ f b = 40 ∨ f b = 41 then 3 else 4) else tkK f b
def nmk (f : Int → Int) : Nat → Nat → Int → Int
  | 0, _, v => v
  | n + 1, p, v => nmk f n (p + 1) (min 1000 (10 * v + f (p : Int) - 48))
/-- the number of the run of digits at b -/
def nmv (f : Int → Int) (L b : Nat) : Int := nmk f (rnn f 2 (L - b) b - b) b 0
def fd1 (σ : Mem) (b : Int) : Mem := if b = 0 then σ else wr (if σ 0 9 < 700 then wr σ 7 (σ 0 9).toNat b else σ) 0 9 (σ 0 9 + 1)
def fdk (w : Int) : Nat → Mem → Mem
  | 0, σ => σ
  | j + 1, σ => fdk w j (fd1 σ (byt w (8 * j) : Nat))
theorem pt1_put {σ μ : Mem} {b : Int} : pt1 (put 20 σ μ) b = put 20 σ (pt1 μ b) := by
  have e : put 20 σ μ 1 1 = μ 1 1 := put_o (by decide)
  unfold pt1
  rw [e]
  by_cases g : b ≠ 0 ∧ μ 1 1 < 700
  · rw [if_pos g, if_pos g, put_wo (by decide), put_wo (by decide)]
  · rw [if_neg g, if_neg g]
theorem pbk_put {σ : Mem} {w : Int} : ∀ (j : Nat) (μ : Mem), pbk w j (put 20 σ μ) = put 20 σ (pbk w j μ)
  | 0, _ => rfl
  | j + 1, μ => by rw [pbk, pbk, pt1_put, pbk_put j]
theorem wfT_put {σ μ : Mem} (h : wfT μ) : wfT (put 20 σ μ) := by
  obtain ⟨t0, t7, tb⟩ := h
  exact ⟨by rw [put_o (by decide)]; exact t0, by rw [put_o (by decide)]; exact t7, fun k hk => by rw [put_o (by decide)]; exact tb k hk⟩
theorem wfT_pbk {w : Int} : ∀ (j : Nat) (μ : Mem), wfT μ → wfT (pbk w j μ)
  | 0, _, h => h
  | j + 1, μ, h => by
    rw [pbk]
    exact wfT_pbk j _ (wfT_pt1 (by have := byt_b w (8 * j); omega) h)
theorem fd1_9 {σ : Mem} {b : Int} (h : b ≠ 0) : fd1 σ b 0 9 = σ 0 9 + 1 := by
  unfold fd1
  rw [if_neg h, wr_s]
/-- x is a name of k letters at most, base 32 -/
def isn : Nat → Int → Prop
  | 0, x => x = 0
  | k + 1, x => x = 0 ∨ (0 < x ∧ 1 ≤ x % 32 ∧ x % 32 ≤ 26 ∧ isn k (x / 32))
def zr (ν : Nat → Int) (k : Nat) : Nat → Int := fun j => if j < k then 0 else ν j
def zc (ν : Nat → Int) : Nat → Nat → Int
  | 0 => ν
  | k + 1 => wv (zc ν k) (362 + 5 * k + 0) (-1)
