/-! THE CLASS WRITES NAMES -/
theorem dv32 {x : Int} {i : Nat} : x / 32 ^ i / 32 = x / 32 ^ (i + 1) := by
  rw [Int.pow_succ]
  first
    | exact Int.ediv_ediv_of_nonneg (Int.le_of_lt (Int.pow_pos (by decide)))
    | rw [Int.ediv_ediv_eq_ediv_mul _ (Int.le_of_lt (Int.pow_pos (by decide)))]
    | rw [Int.ediv_ediv (Int.le_of_lt (Int.pow_pos (by decide)))]
theorem ltl_s {x : Int} {i : Nat} (hi : i < 6) : ltl (6 - i) (x / 32 ^ i) = ltl (5 - i) (x / 32 ^ (i + 1)) ++ (if x / 32 ^ i % 32 = 0 then [] else [96 + x / 32 ^ i % 32]) := by
  rw [show 6 - i = (5 - i) + 1 by omega, ltl, dv32]
theorem ltl_le {x : Int} : ∀ i : Nat, i ≤ 6 → (ltl (6 - i) (x / 32 ^ i)).length ≤ (ltl 6 x).length
  | 0, _ => by
    rw [show x / 32 ^ 0 = x by omega]
    exact Nat.le_refl _
  | i + 1, h => by
    have h1 := ltl_le (x := x) i (by omega)
    rw [ltl_s (by omega), List.length_append] at h1
    rw [show 6 - (i + 1) = 5 - i by omega]
    omega
section WName
variable {σ μ : Mem}
set_option maxRecDepth 8000 in
set_option maxHeartbeats 4000000 in
theorem w_name {x E : Int} {l : List Int} {kc ks : Nat} (hx : isn 6 x) (hB : Bnd l E kc ks μ) (hn : ((l ++ nml 6 x).length : Int) ≤ E) (hE : E = cpf (μ 5002 0) (l ++ nml 6 x).length) {Q : Option Value → Mem → Prop} {X : String → Mem → Prop} (K : ∀ μ', OL (l ++ nml 6 x) μ' → μ' 5003 0 = 0 → μ' 5002 0 = E → eqO μ' μ → Q none (put 20 σ μ')) : mt 276 6 kc ks mX8_writeName [.int (iI x), .ref 5000] Q X (put 20 σ μ) := by
  show go 276 6 kc ks mX8_writeName Q X 0 [.int (iI x), .ref 5000, .null, .null] [] _
  have x0 := isn_ge 6 x hx
  have x1 : x < 1073741824 := isn_lt 6 x hx
  rw [← ltl_nml 6 x hx] at hn hE K
  have fin : ∀ (μ1 : Mem) (kc ks : Nat), Bnd (l ++ ltl 6 x) E kc ks μ1 → eqO μ1 μ → μ 5002 0 ≤ μ1 5002 0 → Q none (put 20 σ μ1) := by
    intro μ1 kc ks h1 h2 h3
    refine K μ1 h1.1 h1.2.1 ?_ h2
    rw [hE]
    refine cpf_min hB.2.2.1 h1.2.2.1 h3 ?_ (by rw [← hE]; exact h1.2.2.2.2.1)
    rw [← h1.1.1]
    exact h1.2.2.2.2.2.2.2
  have loop : ∀ (i : Nat) (μ1 : Mem) (kc ks : Nat) (t : Value), i < 6 → t.category = 1 → Bnd (l ++ ltl (5 - i) (x / 32 ^ (i + 1))) E kc ks μ1 → eqO μ1 μ → μ 5002 0 ≤ μ1 5002 0 → go 276 6 kc ks mX8_writeName Q X 3 [.int (iI x), .ref 5000, .int (iI (5 * (i : Int))), t] [] (put 20 σ μ1) := by
    intro i
    induction i with
    | zero =>
      intro μ1 kc ks t hi ht h1 h2 h3
      have d0 : 0 ≤ x / 32 ^ 0 := by omega
      have hs := ltl_s (x := x) (i := 0) (by decide)
      have hL := ltl_le (x := x) 0 (by decide)
      have hx0 : x / 32 ^ 0 = x := by omega
      rw [hs, List.length_append] at hL
      rw [List.length_append] at hn
      refine go_iload_n (y := mX8_writeName) (pc := 3) dX8_writeName_3 rfl rfl ?_
      refine go_if_lt (y := mX8_writeName) (pc := 4) (tgt := 36) dX8_writeName_4 (by decide) (by omega) (fun h4 => ?_) (fun h4 => ?_)
      · skip
        exact absurd h4 (by omega)
      · skip
        refine go_iload_n (y := mX8_writeName) (pc := 7) dX8_writeName_7 rfl rfl ?_
        refine go_iload_n (y := mX8_writeName) (pc := 8) dX8_writeName_8 rfl rfl ?_
        refine go_iushr (y := mX8_writeName) (pc := 9) dX8_writeName_9 (v := x / 32 ^ 0) (ush5 ⟨x0, x1⟩ (by decide)) ?_
        refine go_bipush (y := mX8_writeName) (pc := 10) dX8_writeName_10 (by decide) ?_
        refine go_iand (y := mX8_writeName) (pc := 12) dX8_writeName_12 (v := x / 32 ^ 0 % 32) (and31 (by omega)) ?_
        refine go_istore_n (y := mX8_writeName) (pc := 13) dX8_writeName_13 rfl (by decide) ?_
        refine go_iload_n (y := mX8_writeName) (pc := 14) dX8_writeName_14 rfl rfl ?_
        refine go_if_eq (y := mX8_writeName) (pc := 15) (tgt := 30) dX8_writeName_15 (by decide) (by omega) (fun h15 => ?_) (fun h15 => ?_)
        · skip
          refine go_iinc (y := mX8_writeName) (pc := 30) dX8_writeName_30 rfl (by decide) ?_
          refine go_goto (y := mX8_writeName) (pc := 33) (tgt := 3) dX8_writeName_33 (by decide) ?_
          refine go_iload_n (y := mX8_writeName) (pc := 3) dX8_writeName_3 rfl rfl ?_
          refine go_if_lt (y := mX8_writeName) (pc := 4) (tgt := 36) dX8_writeName_4 (by decide) (by omega) (fun h4 => ?_) (fun h4 => ?_)
          · skip
            refine go_return (y := mX8_writeName) (pc := 36) dX8_writeName_36 rfl ?_
            refine fin μ1 kc ks ?_ h2 h3
            rw [hx0, if_pos (by rw [hx0] at h15; exact h15), List.append_nil] at hs
            rw [show ltl 6 x = ltl (5 - 0) (x / 32 ^ (0 + 1)) from hs]
            exact h1
          · skip
            exact absurd h4 (by omega)
        · skip
          refine go_aload_n (y := mX8_writeName) (pc := 18) dX8_writeName_18 rfl rfl ?_
          refine go_bipush (y := mX8_writeName) (pc := 19) dX8_writeName_19 (by decide) ?_
          refine go_iload_n (y := mX8_writeName) (pc := 21) dX8_writeName_21 rfl rfl ?_
          refine go_iadd (y := mX8_writeName) (pc := 22) dX8_writeName_22 ?_
          refine go_iconst (y := mX8_writeName) (pc := 23) dX8_writeName_23 ?_
          refine go_isub (y := mX8_writeName) (pc := 24) dX8_writeName_24 ?_
          refine go_i2c (y := mX8_writeName) (pc := 25) dX8_writeName_25 (v := 96 + x / 32 ^ 0 % 32) (by rw [show (97 : Int) + x / 32 ^ 0 % 32 - 1 = 96 + x / 32 ^ 0 % 32 by omega]; exact i2c_s (by omega)) ?_
          refine go_wC (y := mX8_writeName) (pc := 26) dX8_writeName_26 ml_X8_41 (by decide) (by decide) (Nat.le_of_ble_eq_true rfl) rfl (by omega) h1 (by rw [if_neg h15] at hL; simp only [List.length_cons, List.length_nil] at hL; rw [List.length_append]; omega) (fun μ26 kc26 ks26 b26 e26 f26 => ?_)
          refine go_pop (y := mX8_writeName) (pc := 29) dX8_writeName_29 rfl ?_
          refine go_iinc (y := mX8_writeName) (pc := 30) dX8_writeName_30 rfl (by decide) ?_
          refine go_goto (y := mX8_writeName) (pc := 33) (tgt := 3) dX8_writeName_33 (by decide) ?_
          refine go_iload_n (y := mX8_writeName) (pc := 3) dX8_writeName_3 rfl rfl ?_
          refine go_if_lt (y := mX8_writeName) (pc := 4) (tgt := 36) dX8_writeName_4 (by decide) (by omega) (fun h4 => ?_) (fun h4 => ?_)
          · skip
            refine go_return (y := mX8_writeName) (pc := 36) dX8_writeName_36 rfl ?_
            refine fin μ26 kc26 ks26 ?_ (eqO_t e26 h2) (Int.le_trans h3 f26)
            rw [hx0, if_neg (by rw [hx0] at h15; exact h15)] at hs
            rw [show ltl 6 x = ltl (5 - 0) (x / 32 ^ (0 + 1)) ++ [96 + x % 32] from hs, ← List.append_assoc]
            rw [hx0] at b26
            exact b26
          · skip
            exact absurd h4 (by omega)
    | succ i ih =>
      intro μ1 kc ks t hi ht h1 h2 h3
      have d0 : 0 ≤ x / 32 ^ (i + 1) := Int.ediv_nonneg x0 (Int.le_of_lt (Int.pow_pos (by decide)))
      have d1 : x / 32 ^ (i + 1) ≤ x := Int.ediv_le_self _ x0
      have hs := ltl_s (x := x) (i := i + 1) hi
      have hL := ltl_le (x := x) (i + 1) (by omega)
      rw [hs, List.length_append] at hL
      rw [List.length_append] at hn
      rw [show 6 - (i + 1) = 5 - i by omega] at hs
      have eS : 5 * (((i + 1 : Nat) : Int)) + -5 = 5 * (i : Int) := by omega
      refine go_iload_n (y := mX8_writeName) (pc := 3) dX8_writeName_3 rfl rfl ?_
      refine go_if_lt (y := mX8_writeName) (pc := 4) (tgt := 36) dX8_writeName_4 (by decide) (by omega) (fun h4 => ?_) (fun h4 => ?_)
      · skip
        exact absurd h4 (by omega)
      · skip
        refine go_iload_n (y := mX8_writeName) (pc := 7) dX8_writeName_7 rfl rfl ?_
        refine go_iload_n (y := mX8_writeName) (pc := 8) dX8_writeName_8 rfl rfl ?_
        refine go_iushr (y := mX8_writeName) (pc := 9) dX8_writeName_9 (v := x / 32 ^ (i + 1)) (ush5 ⟨x0, x1⟩ hi) ?_
        refine go_bipush (y := mX8_writeName) (pc := 10) dX8_writeName_10 (by decide) ?_
        refine go_iand (y := mX8_writeName) (pc := 12) dX8_writeName_12 (v := x / 32 ^ (i + 1) % 32) (and31 (by omega)) ?_
        refine go_istore_n (y := mX8_writeName) (pc := 13) dX8_writeName_13 rfl (by decide) ?_
        refine go_iload_n (y := mX8_writeName) (pc := 14) dX8_writeName_14 rfl rfl ?_
        refine go_if_eq (y := mX8_writeName) (pc := 15) (tgt := 30) dX8_writeName_15 (by decide) (by omega) (fun h15 => ?_) (fun h15 => ?_)
        · skip
          refine go_iinc (y := mX8_writeName) (pc := 30) dX8_writeName_30 rfl (by decide) ?_
          refine go_goto (y := mX8_writeName) (pc := 33) (tgt := 3) dX8_writeName_33 (by decide) ?_
          rw [eS]
          refine ih μ1 kc ks _ (by omega) rfl ?_ h2 h3
          rw [hs, if_pos h15, List.append_nil]
          exact h1
        · skip
          refine go_aload_n (y := mX8_writeName) (pc := 18) dX8_writeName_18 rfl rfl ?_
          refine go_bipush (y := mX8_writeName) (pc := 19) dX8_writeName_19 (by decide) ?_
          refine go_iload_n (y := mX8_writeName) (pc := 21) dX8_writeName_21 rfl rfl ?_
          refine go_iadd (y := mX8_writeName) (pc := 22) dX8_writeName_22 ?_
          refine go_iconst (y := mX8_writeName) (pc := 23) dX8_writeName_23 ?_
          refine go_isub (y := mX8_writeName) (pc := 24) dX8_writeName_24 ?_
          refine go_i2c (y := mX8_writeName) (pc := 25) dX8_writeName_25 (v := 96 + x / 32 ^ (i + 1) % 32) (by rw [show (97 : Int) + x / 32 ^ (i + 1) % 32 - 1 = 96 + x / 32 ^ (i + 1) % 32 by omega]; exact i2c_s (by omega)) ?_
          refine go_wC (y := mX8_writeName) (pc := 26) dX8_writeName_26 ml_X8_41 (by decide) (by decide) (Nat.le_of_ble_eq_true rfl) rfl (by omega) h1 (by rw [if_neg h15] at hL; simp only [List.length_cons, List.length_nil] at hL; rw [List.length_append]; omega) (fun μ26 kc26 ks26 b26 e26 f26 => ?_)
          refine go_pop (y := mX8_writeName) (pc := 29) dX8_writeName_29 rfl ?_
          refine go_iinc (y := mX8_writeName) (pc := 30) dX8_writeName_30 rfl (by decide) ?_
          refine go_goto (y := mX8_writeName) (pc := 33) (tgt := 3) dX8_writeName_33 (by decide) ?_
          rw [eS]
          refine ih μ26 kc26 ks26 _ (by omega) rfl ?_ (eqO_t e26 h2) (Int.le_trans h3 f26)
          rw [hs, if_neg h15, ← List.append_assoc]
          exact b26
  refine go_bipush (y := mX8_writeName) (pc := 0) dX8_writeName_0 (by decide) ?_
  refine go_istore_n (y := mX8_writeName) (pc := 2) dX8_writeName_2 rfl (by decide) ?_
  exact loop 5 μ kc ks .null (by decide) rfl (by rw [show ltl (5 - 5) (x / 32 ^ (5 + 1)) = [] from rfl, List.append_nil]; exact hB) ⟨fun _ _ _ => rfl, hB.2.1⟩ (Int.le_refl _)
end WName
