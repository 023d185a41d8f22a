/-! THE FIRST TEXT: putAll of the class, takesText of the model -/
def ptn (tx : String) : Nat → Mem → Mem
  | 0, μ => μ
  | k + 1, μ => pt1 (ptn tx k μ) (chz tx k)
theorem ptn_p {i : Nat} {q : String × Nat × String} (hi : sc_l[i]? = some q) {μ : Mem} (hT : wfT μ) (h1 : μ 1 1 = 0) : ∀ k : Nat, k ≤ q.2.2.length → ptn q.2.2 k μ 1 1 = k ∧ (∀ j, j < k → ptn q.2.2 k μ 2 j = chz q.2.2 j) ∧ wfT (ptn q.2.2 k μ) ∧ (∀ b j, b ≠ 1 → b ≠ 2 → ptn q.2.2 k μ b j = μ b j)
  | 0, _ => ⟨h1, fun j hj => absurd hj (Nat.not_lt_zero j), hT, fun _ _ _ _ => rfl⟩
  | k + 1, hk => by
    obtain ⟨a1, a2, a3, a4⟩ := ptn_p hi hT h1 k (by omega)
    have hb := sc_bd hi
    have hc := chz_b hi (show k < q.2.2.length by omega)
    have es : sb (chz q.2.2 k) = chz q.2.2 k := by unfold sb; rw [if_pos (by omega)]
    have e : ptn q.2.2 (k + 1) μ = wr (wr (ptn q.2.2 k μ) 2 k (chz q.2.2 k)) 1 1 (k + 1) := by
      rw [ptn]
      unfold pt1
      rw [if_pos ⟨by omega, by omega⟩, a1, es]
      rfl
    rw [e]
    obtain ⟨t0, t7, tb⟩ := a3
    refine ⟨by rw [wr_s]; rfl, fun j hj => ?_, ⟨by rw [wr_s]; omega, by rw [wr_s]; omega, fun j hj => ?_⟩, fun b j h1 h2 => by rw [wr_na h1, wr_na h2]; exact a4 b j h1 h2⟩
    · rw [wr_na (by decide)]
      by_cases g : j = k
      · rw [g, wr_s]
      · rw [wr_ni g]
        exact a2 j (by omega)
    · rw [wr_na (by decide)]
      by_cases g : j = k
      · rw [g, wr_s]
        omega
      · rw [wr_ni g]
        exact tb j hj
set_option maxRecDepth 8000 in
set_option maxHeartbeats 4000000 in
theorem t_putAll {μ : Mem} {i : Nat} {q : String × Nat × String} (hi : sc_l[i]? = some q) (hT : wfT μ) (h1 : μ 1 1 = 0) {Q : Option Value → Mem → Prop} {X : String → Mem → Prop} (K : Q none (ptn q.2.2 q.2.2.length μ)) : mt 276 4 0 0 mX8_putAll [.ref 1, .ref (7000 + i)] Q X μ := by
  show go 276 4 0 0 mX8_putAll Q X 0 [.ref 1, .ref (7000 + i), .null] [] _
  have hb := sc_bd hi
  have loop : ∀ (n k : Nat), k + n = q.2.2.length → go 276 4 0 0 mX8_putAll Q X 2 [.ref 1, .ref (7000 + i), .int (iI (k : Nat))] [] (ptn q.2.2 k μ) := by
    intro n
    induction n using Nat.strongRecOn with
    | _ n ih =>
      intro k hk
      obtain ⟨a1, a2, a3, a4⟩ := ptn_p hi hT h1 k (by omega)
      refine go_iload_n (y := mX8_putAll) (pc := 2) dX8_putAll_2 rfl rfl ?_
      refine go_aload_n (y := mX8_putAll) (pc := 3) dX8_putAll_3 rfl rfl ?_
      refine go_callK (y := mX8_putAll) (pc := 4) (y' := mJ0_length_8abf5) (as := []) (z' := 276) (d' := 1) (kc' := 0) (ks' := 0) (kc2 := 0) (ks2 := 0) dX8_putAll_4 rfl ml_X8_19 ok_J0_length_8abf5 hi rfl rfl (by decide) (by intro v hv; cases hv) (Nat.le_of_ble_eq_true rfl) (Nat.le_refl _) (by decide) (by decide) (by decide) rfl (k_length hi ?_)
      refine go_icmp_ge (y := mX8_putAll) (pc := 7) (tgt := 25) dX8_putAll_7 (by decide) (by omega) (by omega) (fun h7 => ?_) (fun h7 => ?_)
      · skip
        refine go_return (y := mX8_putAll) (pc := 25) dX8_putAll_25 rfl ?_
        rw [show k = q.2.2.length by omega]
        exact K
      · skip
        refine go_aload_n (y := mX8_putAll) (pc := 10) dX8_putAll_10 rfl rfl ?_
        refine go_aload_n (y := mX8_putAll) (pc := 11) dX8_putAll_11 rfl rfl ?_
        refine go_iload_n (y := mX8_putAll) (pc := 12) dX8_putAll_12 rfl rfl ?_
        refine go_callK (y := mX8_putAll) (pc := 13) (y' := mJ0_charAt_5068e) (as := [.int (iI (k : Nat))]) (z' := 276) (d' := 3) (kc' := 0) (ks' := 0) (kc2 := 0) (ks2 := 0) dX8_putAll_13 rfl ml_X8_25 ok_J0_charAt_5068e hi rfl rfl (by decide) (by intro v hv; rw [List.mem_singleton.mp hv]; rfl) (Nat.le_of_ble_eq_true rfl) (Nat.le_refl _) (by decide) (by decide) (by decide) rfl (k_charAt hi (by omega) ?_)
        refine go_callV1 (y := mX8_putAll) (pc := 16) (y' := mX8_put) (kc2 := 0) (ks2 := 0) dX8_putAll_16 ml_X8_15 ok_X8_put (show shp 1 = _ from rfl) ⟨_, _, rfl⟩ (by decide) rfl (by decide) (Nat.le_of_ble_eq_true rfl) rfl (t_put (by have := chz_b hi (show k < q.2.2.length by omega); omega) a3 ?_)
        refine go_iinc (y := mX8_putAll) (pc := 19) dX8_putAll_19 rfl (by decide) ?_
        refine go_goto (y := mX8_putAll) (pc := 22) (tgt := 2) dX8_putAll_22 (by decide) ?_
        exact ih (n - 1) (by omega) (k + 1) (by omega)
  refine go_iconst (y := mX8_putAll) (pc := 0) dX8_putAll_0 ?_
  refine go_istore_n (y := mX8_putAll) (pc := 1) dX8_putAll_1 rfl (by decide) ?_
  exact loop q.2.2.length 0 (by omega)
/-- the text as the model reads it -/
def fst (tx : String) (i : Int) : Int := if 0 ≤ i ∧ i < (tx.length : Nat) then chz tx i.toNat else 0
def fil (tx : String) (σ : Mem) (k : Nat) : Mem := fun r j => if r = 7 ∧ j < k then chz tx j else σ r j
theorem fil_s (tx : String) (σ : Mem) (k : Nat) : wr (fil tx σ k) 7 k (chz tx k) = fil tx σ (k + 1) := by
  funext r j
  by_cases g : r = 7 ∧ j = k
  · rw [g.1, g.2, wr_s]
    unfold fil
    rw [if_pos ⟨rfl, by omega⟩]
  · rw [wr_n g]
    unfold fil
    by_cases c : r = 7 ∧ j < k
    · rw [if_pos c, if_pos ⟨c.1, by omega⟩]
    · rw [if_neg c, if_neg (by omega)]
theorem fil_o {tx : String} {σ : Mem} {k r j : Nat} (h : r ≠ 7) : fil tx σ k r j = σ r j := if_neg (fun w => h w.1)
section First
variable {σ μ τ : Mem} {ν : Nat → Int} {i : Nat} {q : String × Nat × String}
end First
