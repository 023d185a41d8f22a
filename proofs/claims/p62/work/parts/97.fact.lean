/-! THE FIRST TEXT IS A SETUP -/
def tx0 : String := "house 2 1 3 6 5 2 2; member ada 3 4 5; member ben 2 9 0; member cai 5 15 9; member dov 1 12 3; member eli 4 6 1;"
theorem first_ok : (rdS (fst tx0) tx0.length (st0 (fst tx0) tx0.length) (fun _ _ => 0)).1.2.1 = 0 := by
  decide +kernel
def mem0 : Mem := ptn tx0 tx0.length (fun _ _ => 0)
theorem first_ok2 : (rdS (fst tx0) tx0.length (st0 (fst tx0) tx0.length) mem0).1.2.1 = 0 := by
  decide +kernel
theorem tx_ptn {i : Nat} {q : String × Nat × String} (hi : sc_l[i]? = some q) {μ : Mem} (hT : wfT μ) (h1 : μ 1 1 = 0) : okT (fst q.2.2) q.2.2.length (ptn q.2.2 q.2.2.length μ) := by
  obtain ⟨a1, a2, a3, a4⟩ := ptn_p hi hT h1 q.2.2.length (Nat.le_refl _)
  refine ⟨?_, a1, a3⟩
  funext j
  unfold tx fst
  rw [a1]
  by_cases g : 0 ≤ j ∧ j < (q.2.2.length : Nat)
  · have hc := chz_b hi (show j.toNat < q.2.2.length by omega)
    rw [if_pos g, if_pos g, a2 _ (by omega)]
    unfold ub
    rw [if_neg (by omega)]
  · rw [if_neg g, if_neg g]
/-- of the text a long: what a setup is that was taken first -/
theorem sc_0 : sc_l[0]? = some ("BarberParliament", 76, tx0) := by decide +kernel
