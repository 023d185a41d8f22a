/-! THE RULES OF THE CHAMBER, said of the setup S and the chamber's rows s: 2 purse, 3 sharpness, 4 speeches, 5 0 motions, 6 proposer, 7 state, 8 lather, 9 latest side, 10 leanings, 11 0 requests, 12 13 14 their member, motion, side, 16 speaker, 17 motion, 18 side, 19 remaining, 20 mirrors; 0 5 minute, 6 ranking, 7 tips, 8 votes, 9 rebuttals, 10 sharpenings -/
def smf (f : Nat → Int) : Nat → Int
  | 0 => 0
  | n + 1 => smf f n + f n
theorem smf_cong {f g : Nat → Int} : ∀ {n : Nat}, (∀ k, k < n → f k = g k) → smf f n = smf g n
  | 0, _ => rfl
  | n + 1, h => by rw [smf, smf, smf_cong (fun k hk => h k (by omega)), h n (by omega)]
theorem smf_bd {f : Nat → Int} {b : Int} : ∀ {n : Nat}, (∀ k, k < n → 0 ≤ f k ∧ f k ≤ b) → 0 ≤ smf f n ∧ smf f n ≤ n * b
  | 0, _ => by simp [smf]
  | n + 1, h => by
    have h1 := smf_bd (n := n) (fun k hk => h k (by omega))
    have h2 := h n (by omega)
    have e : ((n + 1 : Nat) : Int) * b = n * b + b := by rw [Int.natCast_add, Int.add_mul]; simp
    rw [smf, e]
    omega
/-- the first k below n with p, or n -/
def fst_k (p : Nat → Bool) : Nat → Nat → Nat
  | 0, k => k
  | n + 1, k => if p k then k else fst_k p n (k + 1)
def ln (s : Mem) (m q : Nat) : Int := s 10 (q * 12 + m)
def vt (s : Mem) (m q : Nat) : Int := if s 3 m = 0 ∨ ln s m q = 0 then 0 else if ln s m q > 0 then 1 else -1
def nvt (S s : Mem) (q : Nat) : Int := smf (fun m => if vt s m q = 0 then 0 else 1) (S 0 7).toNat
def wvt (S s : Mem) (q : Nat) (side : Int) : Int := smf (fun m => if vt s m q = side then S 2 m else 0) (S 0 7).toNat
def mgn (S s : Mem) (q : Nat) : Int := wvt S s q 1 - wvt S s q (-1)
abbrev opn (s : Mem) (q : Int) : Prop := 0 ≤ q ∧ q < s 5 0 ∧ s 7 q.toNat = 0
/-- where p holds first among 0 .. n-1, else -1 -/
def fnd (p : Nat → Prop) [DecidablePred p] : Nat → Int
  | 0 => -1
  | n + 1 => if fnd p n = -1 then (if p n then (n : Int) else -1) else fnd p n
def tkn (s : Mem) (m : Int) : Int := fnd (fun h => s 16 h = m) 4
abbrev spa (s : Mem) (q : Int) : Prop := fnd (fun h => s 16 h ≠ -1 ∧ s 17 h = q) 4 ≠ -1
def plc (s : Mem) (m : Int) : Int := fnd (fun r => s 12 r = m) (s 11 0).toNat
def mrs (s : Mem) : Int := smf (fun h => s 20 h) 4
def frm (S s : Mem) : Int := S 0 1 - mrs s
def obs (S s : Mem) (q : Nat) : Int := if s 7 q ≠ 0 then 1 else if s 8 q < S 0 5 then 2 else if spa s q then 3 else if nvt S s q < S 0 6 then 4 else 0
theorem fnd_0 {p : Nat → Prop} [DecidablePred p] : ∀ {n : Nat}, (∀ k, k < n → ¬ p k) → fnd p n = -1
  | 0, _ => rfl
  | n + 1, h => by rw [fnd, if_pos (fnd_0 (fun k hk => h k (by omega))), if_neg (h n (by omega))]
theorem fnd_1 {p : Nat → Prop} [DecidablePred p] {k : Nat} : ∀ {n : Nat}, k < n → p k → (∀ i, i < k → ¬ p i) → fnd p n = k
  | 0, h, _, _ => by omega
  | n + 1, h, hp, hi => by
    by_cases e : k = n
    · subst e
      rw [fnd, if_pos (fnd_0 hi), if_pos hp]
    · have h1 := fnd_1 (n := n) (by omega) hp hi
      rw [fnd, if_neg (by omega), h1]
theorem fnd_no {p : Nat → Prop} [DecidablePred p] : ∀ {n : Nat}, fnd p n = -1 → ∀ k, k < n → ¬ p k
  | 0, _, k, hk => by omega
  | n + 1, h, k, hk => by
    rw [fnd] at h
    by_cases h1 : fnd p n = -1
    · rw [if_pos h1] at h
      by_cases e : k = n
      · subst e
        intro hp
        rw [if_pos hp] at h
        omega
      · exact fnd_no h1 k (by omega)
    · rw [if_neg h1] at h
      exact absurd h h1
theorem fnd_ge {p : Nat → Prop} [DecidablePred p] : ∀ {n : Nat}, fnd p n = -1 ∨ ∃ k : Nat, k < n ∧ fnd p n = k ∧ p k ∧ ∀ i, i < k → ¬ p i
  | 0 => Or.inl rfl
  | n + 1 => by
    rcases fnd_ge (p := p) (n := n) with h | ⟨k, h1, h2, h3, h4⟩
    · by_cases hp : p n
      · refine Or.inr ⟨n, by omega, by rw [fnd, if_pos h, if_pos hp], hp, fun i hi hpi => ?_⟩
        rcases fnd_no h i hi with q
        exact q hpi
      · exact Or.inl (by rw [fnd, if_pos h, if_neg hp])
    · exact Or.inr ⟨k, by omega, by rw [fnd, if_neg (by omega), h2], h3, h4⟩
/-! state changes -/
def lve (s : Mem) (h : Nat) : Mem := wr (wr (wr s 16 h (-1)) 19 h 0) 20 h 0
def clk (s : Mem) (k : Nat) : Mem := fun r j => if j < k ∧ r = 16 then -1 else if j < k ∧ (r = 19 ∨ r = 20) then 0 else s r j
theorem clk_0 (s : Mem) : clk s 0 = s := by funext r j; unfold clk; rw [if_neg (by omega), if_neg (by omega)]
theorem clk_s (s : Mem) (k : Nat) : lve (clk s k) k = clk s (k + 1) := by
  funext r j
  simp only [lve, wr, clk]
  (repeat' split) <;> first | rfl | omega
/-- motions dry -/
def dry_k (s : Mem) (k : Nat) : Mem := fun r j => if r = 8 ∧ j < k ∧ s 7 j = 0 ∧ s 8 j > 0 then s 8 j - 1 else s r j
def dry (s : Mem) : Mem := dry_k s (s 5 0).toNat
def clp (v : Int) : Int := max (-20) (min v 20)
def sln (s : Mem) (m q : Nat) (v : Int) : Mem := wr s 10 (q * 12 + m) (clp v)
