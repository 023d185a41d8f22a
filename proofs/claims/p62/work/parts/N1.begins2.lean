/-! BEGINS: the chairs are empty -/
section Beg2
variable {D : va_G} {cy : Nat → ClassId} {X0 : Nat → Prop} {ad : Nat → Nat} {F9 : va_W} {d kc ks : Nat} {PQ : Array Value → State → Outcome → State → Prop} {PX : String → State → State → Prop} {L : Nat} {xs : Nat → Int32} {μ0 : Mem} {b3 : Nat}
set_option maxRecDepth 8000 in
theorem bg_192 (K : ∀ μ', (∀ b j, (b ≠ 287 ∨ 4 ≤ j) → μ' b j = μ0 b j) → (∀ j, j < 4 → μ' 287 j = -1) → gl D cy X0 293 ad F9 d kc ks (mL_begins L xs) PQ PX 212 [.ref 0, .ref 276, .ref 6000, .ref b3, .null] [] μ') :
    ∀ (i k : Nat) (μ : Mem), k + i = 4 → (∀ b j, (b ≠ 287 ∨ 4 ≤ j) → μ b j = μ0 b j) → (∀ j, j < k → μ 287 j = -1) → gl D cy X0 293 ad F9 d kc ks (mL_begins L xs) PQ PX 192 [.ref 0, .ref 276, .ref 6000, .ref b3, .int (iI (k : Nat))] [] μ := by
  intro i
  induction i with
  | zero =>
    intro k μ hk h1 h2
    refine gl_iload (y := mL_begins L xs) (pc := 192) (v := (k : Int)) dL_begins_192 rfl ?_
    refine gl_iconst (y := mL_begins L xs) (pc := 194) dL_begins_194 ?_
    refine gl_icmp_ge (y := mL_begins L xs) (pc := 195) (tgt := 212) dL_begins_195 (by decide) ⟨by omega, by omega⟩ ⟨by decide, by decide⟩ (fun _ => ?_) (fun h => absurd h (by omega))
    refine gl_null 4 ?_
    exact K μ h1 (fun j hj => h2 j (by omega))
  | succ i ih =>
    intro k μ hk h1 h2
    refine gl_iload (y := mL_begins L xs) (pc := 192) (v := (k : Int)) dL_begins_192 rfl ?_
    refine gl_iconst (y := mL_begins L xs) (pc := 194) dL_begins_194 ?_
    refine gl_icmp_ge (y := mL_begins L xs) (pc := 195) (tgt := 212) dL_begins_195 (by decide) ⟨by omega, by omega⟩ ⟨by decide, by decide⟩ (fun h => absurd h (by omega)) (fun _ => ?_)
    refine gl_aload_n (y := mL_begins L xs) (pc := 198) dL_begins_198 rfl rfl ?_
    refine gl_getR (y := mL_begins L xs) (pc := 199) (q := 287) dL_begins_199 fl_L_171 (ow_sh (c := 276) (Or.inl rfl) 0 (by decide)) rfl (by decide) ?_
    refine gl_iload (y := mL_begins L xs) (pc := 202) (v := (k : Int)) dL_begins_202 rfl ?_
    refine gl_iconst (y := mL_begins L xs) (pc := 204) dL_begins_204 ?_
    refine gl_iastore (y := mL_begins L xs) (pc := 205) (n := 4) (k := k) dL_begins_205 (ow_sh (c := 276) (Or.inl rfl) 11 (by decide)) (by decide) rfl (by omega) (by decide) ⟨by decide, by decide⟩ ?_
    refine gl_iinc (y := mL_begins L xs) (pc := 206) (v := (k : Int)) dL_begins_206 rfl (show 4 < 5 by decide) ?_
    refine gl_goto (y := mL_begins L xs) (pc := 209) (tgt := 192) dL_begins_209 (by decide) ?_
    refine ih (k + 1) _ (by omega) (fun b j h => ?_) (fun j hj => ?_)
    · rw [show wr μ 287 k (-1) b j = μ b j from if_neg (by omega)]
      exact h1 b j h
    · by_cases e : j = k
      · rw [e]; exact wr_s _ _ _ _
      · rw [wr_ni e]
        exact h2 j (by omega)
end Beg2
