/-! NAMES -/
theorem shl5 (v : Int) : iI v <<< (iI 5 &&& 31) = iI (32 * v) := by
  rw [← iI_mul]
  apply i32_ext
  have h : ∀ (x c : Int32), (x <<< c).toBitVec = x.toBitVec <<< (c.toBitVec.smod 32).toNat := fun _ _ => rfl
  have g : ∀ (x y : Int32), (x * y).toBitVec = x.toBitVec * y.toBitVec := fun _ _ => rfl
  rw [h, g, show ((iI 5 &&& 31).toBitVec.smod 32).toNat = 5 by decide +kernel, BitVec.toNat_shiftLeft, Nat.shiftLeft_eq, BitVec.toNat_mul, show (iI 32).toBitVec.toNat = 2 ^ 5 by decide +kernel, Nat.mul_comm]
def p32 (f : Int → Int) : Nat → Nat → Int → Int
  | 0, _, v => v
  | m + 1, p, v => p32 f m (p + 1) (32 * v + (f (p : Int) - 97 + 1))
def p27 (f : Int → Int) : Nat → Nat → Int → Int
  | 0, _, v => v
  | m + 1, p, v => p27 f m (p + 1) (27 * v + f (p : Int) - 96)
def ltr (f : Int → Int) : Nat → Nat → Bool
  | 0, _ => true
  | m + 1, p => if kd (f (p : Int)) = 1 then ltr f m (p + 1) else false
def nbt (f : Int → Int) (b e : Nat) : Int := if 6 < e - b then 0 else if ltr f (e - b) b = true then p32 f (e - b) b 0 else 0
set_option maxRecDepth 8000 in
set_option maxHeartbeats 4000000 in
theorem t_nameBetween {μ : Mem} {b e : Nat} (hT : wfT μ) (hbe : b ≤ e) (he : e ≤ 701) {Q : Option Value → Mem → Prop} {X : String → Mem → Prop} (K : ∀ v, v = nbt (tx μ) b e → Q (some (.int (iI v))) μ) : mt 276 1 0 0 mX8_nameBetween [.ref 1, .int (iI (b : Nat)), .int (iI (e : Nat))] Q X μ := by
  show go 276 1 0 0 mX8_nameBetween Q X 0 [.ref 1, .int (iI (b : Nat)), .int (iI (e : Nat)), .null, .null, .null] [] _
  have loop : e - b ≤ 6 → ∀ (m n : Nat) (v : Int) (t : Value), n + m = e → b ≤ n → ltr (tx μ) m n = ltr (tx μ) (e - b) b → p32 (tx μ) m n v = p32 (tx μ) (e - b) b 0 → go 276 1 0 0 mX8_nameBetween Q X 15 [.ref 1, .int (iI (b : Nat)), .int (iI (e : Nat)), .int (iI v), .int (iI (n : Nat)), t] [] μ := by
    intro h6 m
    induction m with
    | zero =>
      intro n v t hn hb hl hp
      refine go_iload (y := mX8_nameBetween) (pc := 15) dX8_nameBetween_15 rfl ?_
      refine go_iload_n (y := mX8_nameBetween) (pc := 17) dX8_nameBetween_17 rfl rfl ?_
      refine go_icmp_ge (y := mX8_nameBetween) (pc := 18) (tgt := 58) dX8_nameBetween_18 (by decide) (by omega) (by omega) (fun h18 => ?_) (fun h18 => ?_)
      · skip
        refine go_iload_n (y := mX8_nameBetween) (pc := 58) dX8_nameBetween_58 rfl rfl ?_
        refine go_ireturn (y := mX8_nameBetween) (pc := 59) dX8_nameBetween_59 rfl ?_
        exact K _ (by unfold nbt; rw [if_neg (by omega), ← hl, ltr, if_pos rfl, ← hp, p32])
      · skip
        exact absurd h18 (by omega)
    | succ m ih =>
      intro n v t hn hb hl hp
      refine go_iload (y := mX8_nameBetween) (pc := 15) dX8_nameBetween_15 rfl ?_
      refine go_iload_n (y := mX8_nameBetween) (pc := 17) dX8_nameBetween_17 rfl rfl ?_
      refine go_icmp_ge (y := mX8_nameBetween) (pc := 18) (tgt := 58) dX8_nameBetween_18 (by decide) (by omega) (by omega) (fun h18 => ?_) (fun h18 => ?_)
      · skip
        exact absurd h18 (by omega)
      · skip
        refine go_aload_n (y := mX8_nameBetween) (pc := 21) dX8_nameBetween_21 rfl rfl ?_
        refine go_iload (y := mX8_nameBetween) (pc := 22) dX8_nameBetween_22 rfl ?_
        refine go_callV1 (y := mX8_nameBetween) (pc := 24) (y' := mX8_at) (kc2 := 0) (ks2 := 0) dX8_nameBetween_24 ml_X8_32 ok_X8_at (show shp 1 = _ from rfl) ⟨_, _, rfl⟩ (by decide) rfl (by decide) (Nat.le_of_ble_eq_true rfl) rfl (t_at (by omega) hT (fun v24 e24 b24 => ?_))
        refine go_istore (y := mX8_nameBetween) (pc := 27) dX8_nameBetween_27 (by decide) ?_
        refine go_iload (y := mX8_nameBetween) (pc := 29) dX8_nameBetween_29 rfl ?_
        refine go_callS1 (y := mX8_nameBetween) (pc := 31) (y' := mX9_kindOf) (kc2 := 0) (ks2 := 0) dX8_nameBetween_31 ml_X8_36 ok_X9_kindOf rfl (by decide) (Nat.le_of_ble_eq_true rfl) rfl (t_kindOf (by omega) (fun v31 e31 b31 => ?_))
        refine go_iconst (y := mX8_nameBetween) (pc := 34) dX8_nameBetween_34 ?_
        refine go_icmp_eq (y := mX8_nameBetween) (pc := 35) (tgt := 40) dX8_nameBetween_35 (by decide) (by omega) (by omega) (fun h35 => ?_) (fun h35 => ?_)
        · skip
          refine go_iload_n (y := mX8_nameBetween) (pc := 40) dX8_nameBetween_40 rfl rfl ?_
          refine go_iconst (y := mX8_nameBetween) (pc := 41) dX8_nameBetween_41 ?_
          refine go_ishl (y := mX8_nameBetween) (pc := 42) dX8_nameBetween_42 (v := 32 * v) (shl5 v) ?_
          refine go_iload (y := mX8_nameBetween) (pc := 43) dX8_nameBetween_43 rfl ?_
          refine go_bipush (y := mX8_nameBetween) (pc := 45) dX8_nameBetween_45 (by decide) ?_
          refine go_isub (y := mX8_nameBetween) (pc := 47) dX8_nameBetween_47 ?_
          refine go_iconst (y := mX8_nameBetween) (pc := 48) dX8_nameBetween_48 ?_
          refine go_iadd (y := mX8_nameBetween) (pc := 49) dX8_nameBetween_49 ?_
          refine go_iadd (y := mX8_nameBetween) (pc := 50) dX8_nameBetween_50 ?_
          refine go_istore_n (y := mX8_nameBetween) (pc := 51) dX8_nameBetween_51 rfl (by decide) ?_
          refine go_iinc (y := mX8_nameBetween) (pc := 52) dX8_nameBetween_52 rfl (by decide) ?_
          refine go_goto (y := mX8_nameBetween) (pc := 55) (tgt := 15) dX8_nameBetween_55 (by decide) ?_
          rw [ltr, if_pos (by rw [← e24, ← e31]; exact h35)] at hl
          rw [p32, ← e24] at hp
          exact ih (n + 1) _ _ (by omega) (by omega) hl hp
        · skip
          refine go_iconst (y := mX8_nameBetween) (pc := 38) dX8_nameBetween_38 ?_
          refine go_ireturn (y := mX8_nameBetween) (pc := 39) dX8_nameBetween_39 rfl ?_
          rw [ltr, if_neg (by rw [← e24, ← e31]; exact h35)] at hl
          exact K 0 (by unfold nbt; rw [if_neg (by omega), ← hl, if_neg (by decide)])
  refine go_iload_n (y := mX8_nameBetween) (pc := 0) dX8_nameBetween_0 rfl rfl ?_
  refine go_iload_n (y := mX8_nameBetween) (pc := 1) dX8_nameBetween_1 rfl rfl ?_
  refine go_isub (y := mX8_nameBetween) (pc := 2) dX8_nameBetween_2 ?_
  refine go_bipush (y := mX8_nameBetween) (pc := 3) dX8_nameBetween_3 (by decide) ?_
  refine go_icmp_le (y := mX8_nameBetween) (pc := 5) (tgt := 10) dX8_nameBetween_5 (by decide) (by omega) (by omega) (fun h5 => ?_) (fun h5 => ?_)
  · skip
    refine go_iconst (y := mX8_nameBetween) (pc := 10) dX8_nameBetween_10 ?_
    refine go_istore_n (y := mX8_nameBetween) (pc := 11) dX8_nameBetween_11 rfl (by decide) ?_
    refine go_iload_n (y := mX8_nameBetween) (pc := 12) dX8_nameBetween_12 rfl rfl ?_
    refine go_istore (y := mX8_nameBetween) (pc := 13) dX8_nameBetween_13 (by decide) ?_
    exact loop (by omega) (e - b) b 0 .null (by omega) (by omega) rfl rfl
  · skip
    refine go_iconst (y := mX8_nameBetween) (pc := 8) dX8_nameBetween_8 ?_
    refine go_ireturn (y := mX8_nameBetween) (pc := 9) dX8_nameBetween_9 rfl ?_
    exact K 0 (by unfold nbt; rw [if_pos (by omega)])
set_option maxRecDepth 8000 in
set_option maxHeartbeats 4000000 in
theorem s_memberNamed10 {μ : Mem} {x : Int} (hx : rng x) (h0 : 0 ≤ μ 10 7) (h12 : μ 10 7 ≤ 12) {Q : Option Value → Mem → Prop} {X : String → Mem → Prop} (K : ∀ v, v = fnd (fun m => μ 11 m = x) (μ 10 7).toNat → -1 ≤ v ∧ v < 12 → Q (some (.int (iI v))) μ) : mt 276 0 0 0 mX7_memberNamed [.ref 10, .int (iI x)] Q X μ := by
  show go 276 0 0 0 mX7_memberNamed Q X 0 [.ref 10, .int (iI x), .null] [] _
  have loop : ∀ (n k : Nat), (k : Int) + n = μ 10 7 → (∀ i, i < k → ¬ μ 11 i = x) → go 276 0 0 0 mX7_memberNamed Q X 2 [.ref 10, .int (iI x), .int (iI (k : Nat))] [] μ := by
    intro n
    induction n using Nat.strongRecOn with
    | _ n ih =>
      intro k hk hno
      have ih' := ih (n - 1)
      refine go_iload_n (y := mX7_memberNamed) (pc := 2) dX7_memberNamed_2 rfl rfl ?_
      refine go_aload_n (y := mX7_memberNamed) (pc := 3) dX7_memberNamed_3 rfl rfl ?_
      refine go_getI (y := mX7_memberNamed) (pc := 4) dX7_memberNamed_4 fl_X7_46 rfl rfl (by decide) (fun r4 => ?_)
      refine go_icmp_ge (y := mX7_memberNamed) (pc := 7) (tgt := 28) dX7_memberNamed_7 (by decide) (by omega) (by omega) (fun h7 => ?_) (fun h7 => ?_)
      · skip
        refine go_iconst (y := mX7_memberNamed) (pc := 28) dX7_memberNamed_28 ?_
        refine go_ireturn (y := mX7_memberNamed) (pc := 29) dX7_memberNamed_29 rfl ?_
        exact K (-1) (fnd_0 (fun i hi => hno i (by omega))).symm (by decide)
      · skip
        refine go_aload_n (y := mX7_memberNamed) (pc := 10) dX7_memberNamed_10 rfl rfl ?_
        refine go_getR (y := mX7_memberNamed) (pc := 11) dX7_memberNamed_11 fl_X7_9 rfl rfl (by decide) ?_
        refine go_iload_n (y := mX7_memberNamed) (pc := 14) dX7_memberNamed_14 rfl rfl ?_
        refine go_iaload (y := mX7_memberNamed) (pc := 15) (k := k) dX7_memberNamed_15 rfl (by decide) rfl (by omega) (by decide) (fun r15 => ?_)
        refine go_iload_n (y := mX7_memberNamed) (pc := 16) dX7_memberNamed_16 rfl rfl ?_
        refine go_icmp_ne (y := mX7_memberNamed) (pc := 17) (tgt := 22) dX7_memberNamed_17 (by decide) (by omega) (by omega) (fun h17 => ?_) (fun h17 => ?_)
        · skip
          refine go_iinc (y := mX7_memberNamed) (pc := 22) dX7_memberNamed_22 rfl (by decide) ?_
          refine go_goto (y := mX7_memberNamed) (pc := 25) (tgt := 2) dX7_memberNamed_25 (by decide) ?_
          refine ih' (by omega) (k + 1) (by omega) (fun i hi => ?_)
          by_cases g : i = k
          · rw [g]; exact h17
          · exact hno i (by omega)
        · skip
          refine go_iload_n (y := mX7_memberNamed) (pc := 20) dX7_memberNamed_20 rfl rfl ?_
          refine go_ireturn (y := mX7_memberNamed) (pc := 21) dX7_memberNamed_21 rfl ?_
          exact K k (fnd_1 (by omega) h17 hno).symm (by omega)
  refine go_iconst (y := mX7_memberNamed) (pc := 0) dX7_memberNamed_0 ?_
  refine go_istore_n (y := mX7_memberNamed) (pc := 1) dX7_memberNamed_1 rfl (by decide) ?_
  exact loop (μ 10 7).toNat 0 (by omega) (fun i hi => absurd hi (by omega))
set_option maxRecDepth 8000 in
set_option maxHeartbeats 4000000 in
theorem s_memberNamed15 {μ : Mem} {x : Int} (hx : rng x) (h0 : 0 ≤ μ 15 7) (h12 : μ 15 7 ≤ 12) {Q : Option Value → Mem → Prop} {X : String → Mem → Prop} (K : ∀ v, v = fnd (fun m => μ 16 m = x) (μ 15 7).toNat → -1 ≤ v ∧ v < 12 → Q (some (.int (iI v))) μ) : mt 276 0 0 0 mX7_memberNamed [.ref 15, .int (iI x)] Q X μ := by
  show go 276 0 0 0 mX7_memberNamed Q X 0 [.ref 15, .int (iI x), .null] [] _
  have loop : ∀ (n k : Nat), (k : Int) + n = μ 15 7 → (∀ i, i < k → ¬ μ 16 i = x) → go 276 0 0 0 mX7_memberNamed Q X 2 [.ref 15, .int (iI x), .int (iI (k : Nat))] [] μ := by
    intro n
    induction n using Nat.strongRecOn with
    | _ n ih =>
      intro k hk hno
      have ih' := ih (n - 1)
      refine go_iload_n (y := mX7_memberNamed) (pc := 2) dX7_memberNamed_2 rfl rfl ?_
      refine go_aload_n (y := mX7_memberNamed) (pc := 3) dX7_memberNamed_3 rfl rfl ?_
      refine go_getI (y := mX7_memberNamed) (pc := 4) dX7_memberNamed_4 fl_X7_46 rfl rfl (by decide) (fun r4 => ?_)
      refine go_icmp_ge (y := mX7_memberNamed) (pc := 7) (tgt := 28) dX7_memberNamed_7 (by decide) (by omega) (by omega) (fun h7 => ?_) (fun h7 => ?_)
      · skip
        refine go_iconst (y := mX7_memberNamed) (pc := 28) dX7_memberNamed_28 ?_
        refine go_ireturn (y := mX7_memberNamed) (pc := 29) dX7_memberNamed_29 rfl ?_
        exact K (-1) (fnd_0 (fun i hi => hno i (by omega))).symm (by decide)
      · skip
        refine go_aload_n (y := mX7_memberNamed) (pc := 10) dX7_memberNamed_10 rfl rfl ?_
        refine go_getR (y := mX7_memberNamed) (pc := 11) dX7_memberNamed_11 fl_X7_9 rfl rfl (by decide) ?_
        refine go_iload_n (y := mX7_memberNamed) (pc := 14) dX7_memberNamed_14 rfl rfl ?_
        refine go_iaload (y := mX7_memberNamed) (pc := 15) (k := k) dX7_memberNamed_15 rfl (by decide) rfl (by omega) (by decide) (fun r15 => ?_)
        refine go_iload_n (y := mX7_memberNamed) (pc := 16) dX7_memberNamed_16 rfl rfl ?_
        refine go_icmp_ne (y := mX7_memberNamed) (pc := 17) (tgt := 22) dX7_memberNamed_17 (by decide) (by omega) (by omega) (fun h17 => ?_) (fun h17 => ?_)
        · skip
          refine go_iinc (y := mX7_memberNamed) (pc := 22) dX7_memberNamed_22 rfl (by decide) ?_
          refine go_goto (y := mX7_memberNamed) (pc := 25) (tgt := 2) dX7_memberNamed_25 (by decide) ?_
          refine ih' (by omega) (k + 1) (by omega) (fun i hi => ?_)
          by_cases g : i = k
          · rw [g]; exact h17
          · exact hno i (by omega)
        · skip
          refine go_iload_n (y := mX7_memberNamed) (pc := 20) dX7_memberNamed_20 rfl rfl ?_
          refine go_ireturn (y := mX7_memberNamed) (pc := 21) dX7_memberNamed_21 rfl ?_
          exact K k (fnd_1 (by omega) h17 hno).symm (by omega)
  refine go_iconst (y := mX7_memberNamed) (pc := 0) dX7_memberNamed_0 ?_
  refine go_istore_n (y := mX7_memberNamed) (pc := 1) dX7_memberNamed_1 rfl (by decide) ?_
  exact loop (μ 15 7).toNat 0 (by omega) (fun i hi => absurd hi (by omega))
section MNames
variable {S s σ μ : Mem} {ν : Nat → Int} {f : Int → Int} {L : Nat}
end MNames
