/-! A CHAMBER COPIED: what can be read of it is the same -/
def eqC (t s : Mem) : Prop := (t 5 0 = s 5 0 ∧ t 11 0 = s 11 0 ∧ ∀ j, 5 ≤ j → j < 11 → t 0 j = s 0 j) ∧
  (∀ j, j < 12 → t 2 j = s 2 j ∧ t 3 j = s 3 j ∧ t 4 j = s 4 j ∧ t 12 j = s 12 j ∧ t 13 j = s 13 j ∧ t 14 j = s 14 j) ∧
  (∀ j, j < 16 → t 6 j = s 6 j ∧ t 7 j = s 7 j ∧ t 8 j = s 8 j ∧ t 9 j = s 9 j) ∧ (∀ j, j < 192 → t 10 j = s 10 j) ∧
  (∀ j, j < 4 → t 16 j = s 16 j ∧ t 17 j = s 17 j ∧ t 18 j = s 18 j ∧ t 19 j = s 19 j ∧ t 20 j = s 20 j)
theorem eqC_refl (s : Mem) : eqC s s := ⟨⟨rfl, rfl, fun _ _ _ => rfl⟩, fun _ _ => ⟨rfl, rfl, rfl, rfl, rfl, rfl⟩, fun _ _ => ⟨rfl, rfl, rfl, rfl⟩, fun _ _ => rfl, fun _ _ => ⟨rfl, rfl, rfl, rfl, rfl⟩⟩
theorem eqC_tr {a b c : Mem} (h : eqC a b) (g : eqC b c) : eqC a c := by
  obtain ⟨⟨h1, h2, h3⟩, h4, h5, h6, h7⟩ := h
  obtain ⟨⟨g1, g2, g3⟩, g4, g5, g6, g7⟩ := g
  exact ⟨⟨h1.trans g1, h2.trans g2, fun j a b => (h3 j a b).trans (g3 j a b)⟩, fun j hj => ⟨(h4 j hj).1.trans (g4 j hj).1, (h4 j hj).2.1.trans (g4 j hj).2.1, (h4 j hj).2.2.1.trans (g4 j hj).2.2.1, (h4 j hj).2.2.2.1.trans (g4 j hj).2.2.2.1, (h4 j hj).2.2.2.2.1.trans (g4 j hj).2.2.2.2.1, (h4 j hj).2.2.2.2.2.trans (g4 j hj).2.2.2.2.2⟩,
    fun j hj => ⟨(h5 j hj).1.trans (g5 j hj).1, (h5 j hj).2.1.trans (g5 j hj).2.1, (h5 j hj).2.2.1.trans (g5 j hj).2.2.1, (h5 j hj).2.2.2.trans (g5 j hj).2.2.2⟩, fun j hj => (h6 j hj).trans (g6 j hj),
    fun j hj => ⟨(h7 j hj).1.trans (g7 j hj).1, (h7 j hj).2.1.trans (g7 j hj).2.1, (h7 j hj).2.2.1.trans (g7 j hj).2.2.1, (h7 j hj).2.2.2.1.trans (g7 j hj).2.2.2.1, (h7 j hj).2.2.2.2.trans (g7 j hj).2.2.2.2⟩⟩
theorem eqC_of {t s : Mem} (h : ∀ r j, r < 21 → t r j = s r j) : eqC t s := ⟨⟨h _ _ (by decide), h _ _ (by decide), fun _ _ _ => h _ _ (by decide)⟩, fun _ _ => ⟨h _ _ (by decide), h _ _ (by decide), h _ _ (by decide), h _ _ (by decide), h _ _ (by decide), h _ _ (by decide)⟩, fun _ _ => ⟨h _ _ (by decide), h _ _ (by decide), h _ _ (by decide), h _ _ (by decide)⟩, fun _ _ => h _ _ (by decide), fun _ _ => ⟨h _ _ (by decide), h _ _ (by decide), h _ _ (by decide), h _ _ (by decide), h _ _ (by decide)⟩⟩
theorem cpr_s {t s : Mem} {r n j : Nat} (h : j < n) : cpr t s r n r j = t r j := if_pos ⟨rfl, h⟩
theorem cpr_o {t s : Mem} {r n b j : Nat} (h : b ≠ r) : cpr t s r n b j = s b j := if_neg (fun q => h q.1)
theorem eq_cpC (t s : Mem) : eqC (cpC t s) t := by
  refine ⟨⟨?_, ?_, fun j h1 h2 => ?_⟩, fun j hj => ⟨?_, ?_, ?_, ?_, ?_, ?_⟩, fun j hj => ⟨?_, ?_, ?_, ?_⟩, fun j hj => ?_, fun j hj => ⟨?_, ?_, ?_, ?_, ?_⟩⟩
  · rw [cpC, wr_na (by decide), wr_na (by decide), wr_na (by decide), wr_na (by decide), wr_na (by decide), wr_na (by decide), cpX, cpr_o (by decide), cpr_o (by decide), cpr_o (by decide), cpr_o (by decide), cpr_o (by decide), cpQ, cpr_o (by decide), cpr_o (by decide), cpr_o (by decide), wr_na (by decide), cpT, cpr_o (by decide), cpr_o (by decide), cpr_o (by decide), cpr_o (by decide), cpr_o (by decide), wr_s]
  · rw [cpC, wr_na (by decide), wr_na (by decide), wr_na (by decide), wr_na (by decide), wr_na (by decide), wr_na (by decide), cpX, cpr_o (by decide), cpr_o (by decide), cpr_o (by decide), cpr_o (by decide), cpr_o (by decide), cpQ, cpr_o (by decide), cpr_o (by decide), cpr_o (by decide), wr_s]
  · have h : j = 5 ∨ j = 6 ∨ j = 7 ∨ j = 8 ∨ j = 9 ∨ j = 10 := by omega
    rcases h with rfl | rfl | rfl | rfl | rfl | rfl
    · rw [cpC, wr_ni (by decide), wr_ni (by decide), wr_ni (by decide), wr_ni (by decide), wr_ni (by decide), wr_s]
    · rw [cpC, wr_ni (by decide), wr_ni (by decide), wr_ni (by decide), wr_ni (by decide), wr_s]
    · rw [cpC, wr_ni (by decide), wr_ni (by decide), wr_ni (by decide), wr_s]
    · rw [cpC, wr_ni (by decide), wr_ni (by decide), wr_s]
    · rw [cpC, wr_ni (by decide), wr_s]
    · rw [cpC, wr_s]
  · rw [cpC, wr_na (by decide), wr_na (by decide), wr_na (by decide), wr_na (by decide), wr_na (by decide), wr_na (by decide), cpX, cpr_o (by decide), cpr_o (by decide), cpr_o (by decide), cpr_o (by decide), cpr_o (by decide), cpQ, cpr_o (by decide), cpr_o (by decide), cpr_o (by decide), wr_na (by decide), cpT, cpr_o (by decide), cpr_o (by decide), cpr_o (by decide), cpr_o (by decide), cpr_o (by decide), wr_na (by decide), cpM, cpr_o (by decide), cpr_o (by decide), cpr_s hj]
  · rw [cpC, wr_na (by decide), wr_na (by decide), wr_na (by decide), wr_na (by decide), wr_na (by decide), wr_na (by decide), cpX, cpr_o (by decide), cpr_o (by decide), cpr_o (by decide), cpr_o (by decide), cpr_o (by decide), cpQ, cpr_o (by decide), cpr_o (by decide), cpr_o (by decide), wr_na (by decide), cpT, cpr_o (by decide), cpr_o (by decide), cpr_o (by decide), cpr_o (by decide), cpr_o (by decide), wr_na (by decide), cpM, cpr_o (by decide), cpr_s hj]
  · rw [cpC, wr_na (by decide), wr_na (by decide), wr_na (by decide), wr_na (by decide), wr_na (by decide), wr_na (by decide), cpX, cpr_o (by decide), cpr_o (by decide), cpr_o (by decide), cpr_o (by decide), cpr_o (by decide), cpQ, cpr_o (by decide), cpr_o (by decide), cpr_o (by decide), wr_na (by decide), cpT, cpr_o (by decide), cpr_o (by decide), cpr_o (by decide), cpr_o (by decide), cpr_o (by decide), wr_na (by decide), cpM, cpr_s hj]
  · rw [cpC, wr_na (by decide), wr_na (by decide), wr_na (by decide), wr_na (by decide), wr_na (by decide), wr_na (by decide), cpX, cpr_o (by decide), cpr_o (by decide), cpr_o (by decide), cpr_o (by decide), cpr_o (by decide), cpQ, cpr_o (by decide), cpr_o (by decide), cpr_s hj]
  · rw [cpC, wr_na (by decide), wr_na (by decide), wr_na (by decide), wr_na (by decide), wr_na (by decide), wr_na (by decide), cpX, cpr_o (by decide), cpr_o (by decide), cpr_o (by decide), cpr_o (by decide), cpr_o (by decide), cpQ, cpr_o (by decide), cpr_s hj]
  · rw [cpC, wr_na (by decide), wr_na (by decide), wr_na (by decide), wr_na (by decide), wr_na (by decide), wr_na (by decide), cpX, cpr_o (by decide), cpr_o (by decide), cpr_o (by decide), cpr_o (by decide), cpr_o (by decide), cpQ, cpr_s hj]
  · rw [cpC, wr_na (by decide), wr_na (by decide), wr_na (by decide), wr_na (by decide), wr_na (by decide), wr_na (by decide), cpX, cpr_o (by decide), cpr_o (by decide), cpr_o (by decide), cpr_o (by decide), cpr_o (by decide), cpQ, cpr_o (by decide), cpr_o (by decide), cpr_o (by decide), wr_na (by decide), cpT, cpr_o (by decide), cpr_o (by decide), cpr_o (by decide), cpr_o (by decide), cpr_s hj]
  · rw [cpC, wr_na (by decide), wr_na (by decide), wr_na (by decide), wr_na (by decide), wr_na (by decide), wr_na (by decide), cpX, cpr_o (by decide), cpr_o (by decide), cpr_o (by decide), cpr_o (by decide), cpr_o (by decide), cpQ, cpr_o (by decide), cpr_o (by decide), cpr_o (by decide), wr_na (by decide), cpT, cpr_o (by decide), cpr_o (by decide), cpr_o (by decide), cpr_s hj]
  · rw [cpC, wr_na (by decide), wr_na (by decide), wr_na (by decide), wr_na (by decide), wr_na (by decide), wr_na (by decide), cpX, cpr_o (by decide), cpr_o (by decide), cpr_o (by decide), cpr_o (by decide), cpr_o (by decide), cpQ, cpr_o (by decide), cpr_o (by decide), cpr_o (by decide), wr_na (by decide), cpT, cpr_o (by decide), cpr_o (by decide), cpr_s hj]
  · rw [cpC, wr_na (by decide), wr_na (by decide), wr_na (by decide), wr_na (by decide), wr_na (by decide), wr_na (by decide), cpX, cpr_o (by decide), cpr_o (by decide), cpr_o (by decide), cpr_o (by decide), cpr_o (by decide), cpQ, cpr_o (by decide), cpr_o (by decide), cpr_o (by decide), wr_na (by decide), cpT, cpr_o (by decide), cpr_s hj]
  · rw [cpC, wr_na (by decide), wr_na (by decide), wr_na (by decide), wr_na (by decide), wr_na (by decide), wr_na (by decide), cpX, cpr_o (by decide), cpr_o (by decide), cpr_o (by decide), cpr_o (by decide), cpr_o (by decide), cpQ, cpr_o (by decide), cpr_o (by decide), cpr_o (by decide), wr_na (by decide), cpT, cpr_s hj]
  · rw [cpC, wr_na (by decide), wr_na (by decide), wr_na (by decide), wr_na (by decide), wr_na (by decide), wr_na (by decide), cpX, cpr_o (by decide), cpr_o (by decide), cpr_o (by decide), cpr_o (by decide), cpr_s hj]
  · rw [cpC, wr_na (by decide), wr_na (by decide), wr_na (by decide), wr_na (by decide), wr_na (by decide), wr_na (by decide), cpX, cpr_o (by decide), cpr_o (by decide), cpr_o (by decide), cpr_s hj]
  · rw [cpC, wr_na (by decide), wr_na (by decide), wr_na (by decide), wr_na (by decide), wr_na (by decide), wr_na (by decide), cpX, cpr_o (by decide), cpr_o (by decide), cpr_s hj]
  · rw [cpC, wr_na (by decide), wr_na (by decide), wr_na (by decide), wr_na (by decide), wr_na (by decide), wr_na (by decide), cpX, cpr_o (by decide), cpr_s hj]
  · rw [cpC, wr_na (by decide), wr_na (by decide), wr_na (by decide), wr_na (by decide), wr_na (by decide), wr_na (by decide), cpX, cpr_s hj]
theorem wf_eq {S s t : Mem} (hS : wfS S) (hC : wfC S s) (h : eqC t s) : wfC S t := by
  obtain ⟨n1, n12, c1, c4⟩ := wf_n hS
  obtain ⟨⟨e5, e11, e0⟩, e12, e16, e192, e4⟩ := h
  obtain ⟨⟨a1, a2, a3, a4, a5, a6, a7⟩, b, c, d, e, f⟩ := hC
  have e06 := e0 6 (by decide) (by decide)
  have em : mrs t = mrs s := smf_cong (fun k hk => (e4 k hk).2.2.2.2)
  refine ⟨⟨by omega, by omega, by omega, by omega, by omega, by omega, by omega⟩, fun m hm => ?_, fun q hq => ?_, fun r hr => ?_, fun r k hr hk he => ?_, fun h hh => ?_⟩
  · have h1 := e12 m (by omega)
    have h2 := b m hm
    omega
  · have h1 := e16 q (by omega)
    have h2 := c q (by omega)
    refine ⟨by omega, by omega, by omega, by omega, by omega, by omega, by omega, by omega, fun m hm => ?_⟩
    have h3 := e192 (q * 12 + m) (by omega)
    have h4 := h2.2.2.2.2.2.2.2.2 m hm
    unfold ln at h4 ⊢
    omega
  · have h1 := e12 r (by omega)
    have h2 := d r (by omega)
    omega
  · have h1 := e12 r (by omega)
    have h2 := e12 k (by omega)
    exact e r k (by omega) (by omega) (by omega)
  · have h1 := e4 h hh
    have h2 := f h hh
    obtain ⟨g1, g2, g3, g4, g5⟩ := h1
    rw [g1, g2, g3, g4, g5, e5]
    exact h2
/-! chambers beside the class's own -/
theorem put_c {c : Nat} {τ σ μ : Mem} (h : 41 ≤ c) : put c τ (put 20 σ μ) = put 20 σ (put c τ μ) := by
  funext b j
  unfold put
  by_cases h1 : 20 ≤ b ∧ b < 20 + 21
  · rw [if_pos h1, if_neg (by omega), if_pos h1]
  · rw [if_neg h1, if_neg h1]
theorem su_put {c : Nat} {τ μ : Mem} (h : 20 ≤ c) : su (put c τ μ) = su μ := by
  funext r j
  unfold su
  by_cases h1 : r < 5
  · rw [if_pos h1, if_pos h1, put_o (by omega)]
  · rw [if_neg h1, if_neg h1]
theorem su_wr {a i : Nat} {v : Int} {μ : Mem} (h : 15 ≤ a ∨ a < 10) : su (wr μ a i v) = su μ := by
  funext r j
  unfold su
  by_cases h1 : r < 5
  · rw [if_pos h1, if_pos h1, wr_na (by omega)]
  · rw [if_neg h1, if_neg h1]
theorem eq_vput {σ μ : Mem} : eqC (vw 20 (put 20 σ μ)) σ := eqC_of (fun r j h => put_r h)
theorem eq_wo {c a i : Nat} {v : Int} {μ : Mem} (h : a < c ∨ c + 21 ≤ a) : eqC (vw c (wr μ a i v)) (vw c μ) := eqC_of (fun r j hr => wr_na (by omega))
theorem eq_po {c b : Nat} {τ μ : Mem} (h : b + 21 ≤ c ∨ c + 21 ≤ b) : eqC (vw c (put b τ μ)) (vw c μ) := eqC_of (fun r j hr => put_o (by omega))
theorem eq_ps {c : Nat} {τ μ : Mem} : eqC (vw c (put c τ μ)) τ := eqC_of (fun r j hr => put_r hr)
theorem h64 {n : Nat} (h : n < 8) : is_ch (64 + 21 * n) := by
  have e : n = 0 ∨ n = 1 ∨ n = 2 ∨ n = 3 ∨ n = 4 ∨ n = 5 ∨ n = 6 ∨ n = 7 := by omega
  unfold is_ch
  rcases e with rfl | rfl | rfl | rfl | rfl | rfl | rfl | rfl <;> decide
theorem k63 {n : Nat} (h : n < 8) : [some 64, some 85, some 106, some 127, some 148, some 169, some 190, some 211].getD n none = some (64 + 21 * n) := by
  have e : n = 0 ∨ n = 1 ∨ n = 2 ∨ n = 3 ∨ n = 4 ∨ n = 5 ∨ n = 6 ∨ n = 7 := by omega
  rcases e with rfl | rfl | rfl | rfl | rfl | rfl | rfl | rfl <;> rfl
theorem h233 {n : Nat} (h : n < 2) : is_ch (233 + 21 * n) := by
  have e : n = 0 ∨ n = 1 := by omega
  unfold is_ch
  rcases e with rfl | rfl <;> decide
theorem k232 {n : Nat} (h : n < 2) : [some 233, some 254].getD n none = some (233 + 21 * n) := by
  have e : n = 0 ∨ n = 1 := by omega
  rcases e with rfl | rfl <;> rfl
section BMode2
variable {z d kc ks : Nat} {y : MI} {Q : Option Value → Mem → Prop} {X : String → Mem → Prop} {pc : Nat} {ls st : List Value} {μ σ : Mem} {c b : Nat}
theorem go_bzas {n k : Nat} {i v : Int} {fs : List (Option Nat)} (hd : decode y.2.1 pc = .ok (.bastore, 1)) (hs : shp b = (2, n, fs)) (hb : b < z) (ho : b < c ∨ c + 21 ≤ b) (hi : i = (k : Int)) (hk : k < n) (hn : n < 4000) (hv : v = 0 ∨ v = 1) (K : go z d kc ks y Q X (pc + 1) ls st (put c σ (wr μ b k v))) : go z d kc ks y Q X pc ls (.int (iI v) :: .int (iI i) :: .ref b :: st) (put c σ μ) :=
  go_zastore hd hs hb hi hk hn hv (by rw [put_wo ho]; exact K)
end BMode2
