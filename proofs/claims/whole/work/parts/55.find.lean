/-! FINDING A MEMBER -/
theorem fnd_n27 {g : Nat → Int} {n : Nat} {x : Int} (hn : ∀ k, k < n → isn 6 (g k)) (hx : isn 6 x) : fnd (fun m => n27 (g m) = n27 x) n = fnd (fun m => g m = x) n := fnd_cong (fun k hk => n27_iff (hn k hk) hx)
set_option maxRecDepth 8000 in
set_option maxHeartbeats 4000000 in
theorem g_findMember {σ μ : Mem} {L : Nat} (hL : μ 1 1 = L) (hT : wfT μ) (hn : 0 ≤ μ 10 7) (hn12 : μ 10 7 ≤ 12) {Q : Option Value → Mem → Prop} {X : String → Mem → Prop} (K : ∀ v, v = fnd (fun m => μ 11 m = nbt (tx μ) 0 L) (μ 10 7).toNat → -1 ≤ v ∧ v < 12 → Q (some (.int (iI v))) (put 20 σ μ)) : mt 276 3 0 0 mX10_findMember [.ref 0] Q X (put 20 σ μ) := by
  show go 276 3 0 0 mX10_findMember Q X 0 [.ref 0] [] _
  have hL7 : L ≤ 700 := by have := hT.2.1; omega
  have etx : tx (put 20 σ μ) = tx μ := by
    funext i
    unfold tx
    rw [put_o (by decide), put_o (by decide)]
  have nb := nbt_b (tx μ) 0 L
  refine go_aload_n (y := mX10_findMember) (pc := 0) dX10_findMember_0 rfl rfl ?_
  refine go_getR (y := mX10_findMember) (pc := 1) dX10_findMember_1 fl_X10_35 rfl rfl (by decide) ?_
  refine go_aload_n (y := mX10_findMember) (pc := 4) dX10_findMember_4 rfl rfl ?_
  refine go_getR (y := mX10_findMember) (pc := 5) dX10_findMember_5 fl_X10_10 rfl rfl (by decide) ?_
  refine go_iconst (y := mX10_findMember) (pc := 8) dX10_findMember_8 ?_
  refine go_aload_n (y := mX10_findMember) (pc := 9) dX10_findMember_9 rfl rfl ?_
  refine go_getR (y := mX10_findMember) (pc := 10) dX10_findMember_10 fl_X10_10 rfl rfl (by decide) ?_
  refine go_bget (y := mX10_findMember) (pc := 13) dX10_findMember_13 fl_X10_89 rfl rfl (by decide) (by decide) (fun r13 => ?_)
  refine go_top (b := ((L : Nat) : Int)) (hL) (fun t13 => ?_)
  refine go_callV2 (y := mX10_findMember) (pc := 16) (y' := mX8_nameBetween) (kc2 := 0) (ks2 := 0) dX10_findMember_16 ml_X10_159 ok_X8_nameBetween (show shp 1 = _ from rfl) ⟨_, _, rfl⟩ (by decide) ⟨rfl, rfl⟩ (by decide) (Nat.le_of_ble_eq_true rfl) rfl (t_nameBetween (b := 0) (e := L) (wfT_put hT) (by omega) (by omega) (fun v16 e16 => ?_))
  rw [etx] at e16
  refine go_callV1 (y := mX10_findMember) (pc := 19) (y' := mX7_memberNamed) (kc2 := 0) (ks2 := 0) dX10_findMember_19 ml_X10_163 ok_X7_memberNamed (show shp 10 = _ from rfl) ⟨_, _, rfl⟩ (by decide) rfl (by decide) (Nat.le_of_ble_eq_true rfl) rfl (s_memberNamed10 (μ := put 20 σ μ) (x := v16) (by omega) (show 0 ≤ (put 20 σ μ) 10 7 from hn) (show (put 20 σ μ) 10 7 ≤ 12 from hn12) (fun v19 e19 b19 => ?_))
  refine go_ireturn (y := mX10_findMember) (pc := 22) dX10_findMember_22 rfl ?_
  exact K v19 (by rw [e19, e16]; rfl) b19
section MFind
variable {S t σ μ : Mem} {ν : Nat → Int} {f : Int → Int} {L : Nat}
theorem p27_r {f : Int → Int} {m p : Nat} (hl : ltr f m p = true) (h6 : m ≤ 6) : 0 ≤ p27 f m p 0 ∧ p27 f m p 0 < 1073741824 := by
  have h := p27_b m p 0 1 hl (by decide) (by decide)
  rw [Int.one_mul] at h
  have e9 : m = 0 ∨ m = 1 ∨ m = 2 ∨ m = 3 ∨ m = 4 ∨ m = 5 ∨ m = 6 := by omega
  rcases e9 with e9 | e9 | e9 | e9 | e9 | e9 | e9 <;> rw [e9] at h ⊢ <;> omega
set_option maxRecDepth 8000 in
set_option maxHeartbeats 4000000 in
theorem m_findMember (hB : okB f L σ) (hr : rel S t ν) (hS : wfS S) {Q : Option Value → Mem → Prop} {X : String → Mem → Prop} (K : ∀ v, v = (if 1 ≤ L ∧ L ≤ 6 ∧ ltr f L 0 = true then fnd (fun m => n27 (S 1 m) = p27 f L 0 0) (S 0 7).toNat else -1) → -1 ≤ v ∧ v < 12 → Q (some (.int (iI v))) (md (wr σ 0 7 0) ν μ)) : mt 289 2 0 0 mX11_findMember [.ref 276] Q X (md σ ν μ) := by
  show go 289 2 0 0 mX11_findMember Q X 0 [.ref 276, .null] [] _
  have hB1 : okB f L (wr σ 0 7 0) := okB_w hB (by decide)
  obtain ⟨b1, b2, b3, b4⟩ := id hB1
  have loop : 1 ≤ L → L ≤ 6 → ∀ (n k : Nat), k + n = L → ltr f n k = ltr f L 0 → go 289 2 0 0 mX11_findMember Q X 22 [.ref 276, .int (iI (k : Nat))] [] (md (wr σ 0 7 0) ν μ) := by
    intro h1 h6 n
    induction n with
    | zero =>
      intro k hk hl
      rw [ltr] at hl
      have hb := p27_r hl.symm h6
      refine go_iload_n (y := mX11_findMember) (pc := 22) dX11_findMember_22 rfl rfl ?_
      refine go_aload_n (y := mX11_findMember) (pc := 23) dX11_findMember_23 rfl rfl ?_
      refine go_mget (y := mX11_findMember) (pc := 24) dX11_findMember_24 fl_X11_67 rfl rfl (by decide) (fun r24 => ?_)
      refine go_top (b := ((L : Nat) : Int)) (b1) (fun t24 => ?_)
      refine go_icmp_ge (y := mX11_findMember) (pc := 27) (tgt := 54) dX11_findMember_27 (by decide) (by omega) (by omega) (fun h27 => ?_) (fun h27 => ?_)
      · skip
        refine go_aload_n (y := mX11_findMember) (pc := 54) dX11_findMember_54 rfl rfl ?_
        refine go_aload_n (y := mX11_findMember) (pc := 55) dX11_findMember_55 rfl rfl ?_
        refine go_iconst (y := mX11_findMember) (pc := 56) dX11_findMember_56 ?_
        refine go_aload_n (y := mX11_findMember) (pc := 57) dX11_findMember_57 rfl rfl ?_
        refine go_mget (y := mX11_findMember) (pc := 58) dX11_findMember_58 fl_X11_67 rfl rfl (by decide) (fun r58 => ?_)
        refine go_top (b := ((L : Nat) : Int)) (b1) (fun t58 => ?_)
        refine go_callV2 (y := mX11_findMember) (pc := 61) (y' := mX11_packed) (kc2 := 0) (ks2 := 0) dX11_findMember_61 ml_X11_211 ok_X11_packed (show shp 276 = _ from rfl) ⟨_, _, rfl⟩ (by decide) ⟨rfl, rfl⟩ (by decide) (Nat.le_of_ble_eq_true rfl) rfl (m_packed (b := 0) (m := L) hB1 (by omega) ?_)
        refine go_callV1 (y := mX11_findMember) (pc := 64) (y' := mX11_named) (kc2 := 0) (ks2 := 0) dX11_findMember_64 ml_X11_217 ok_X11_named (show shp 276 = _ from rfl) ⟨_, _, rfl⟩ (by decide) rfl (by decide) (Nat.le_of_ble_eq_true rfl) rfl (m_named (x := p27 f L 0 0) (by omega) hr hS (fun v64 e64 b64 => ?_))
        refine go_ireturn (y := mX11_findMember) (pc := 67) dX11_findMember_67 rfl ?_
        exact K v64 (by rw [if_pos ⟨h1, h6, hl.symm⟩]; exact e64) b64
      · skip
        exact absurd h27 (by omega)
    | succ n ih =>
      intro k hk hl
      have h9 := b3 k (by omega)
      refine go_iload_n (y := mX11_findMember) (pc := 22) dX11_findMember_22 rfl rfl ?_
      refine go_aload_n (y := mX11_findMember) (pc := 23) dX11_findMember_23 rfl rfl ?_
      refine go_mget (y := mX11_findMember) (pc := 24) dX11_findMember_24 fl_X11_67 rfl rfl (by decide) (fun r24 => ?_)
      refine go_top (b := ((L : Nat) : Int)) (b1) (fun t24 => ?_)
      refine go_icmp_ge (y := mX11_findMember) (pc := 27) (tgt := 54) dX11_findMember_27 (by decide) (by omega) (by omega) (fun h27 => ?_) (fun h27 => ?_)
      · skip
        exact absurd h27 (by omega)
      · skip
        refine go_aload_n (y := mX11_findMember) (pc := 30) dX11_findMember_30 rfl rfl ?_
        refine go_mref (y := mX11_findMember) (pc := 31) dX11_findMember_31 fl_X11_29 rfl rfl (by decide) ?_
        refine go_iload_n (y := mX11_findMember) (pc := 34) dX11_findMember_34 rfl rfl ?_
        refine go_mial (y := mX11_findMember) (pc := 35) (r := 7) (k := k) dX11_findMember_35 (by decide) (by decide) rfl (by decide) rfl (by omega) (by decide) (fun r35 => ?_)
        refine go_top (b := f k) (h9.1) (fun t35 => ?_)
        refine go_bipush (y := mX11_findMember) (pc := 36) dX11_findMember_36 (by decide) ?_
        refine go_bipush (y := mX11_findMember) (pc := 38) dX11_findMember_38 (by decide) ?_
        refine go_callS3 (y := mX11_findMember) (pc := 40) (y' := mX11_in) (kc2 := 0) (ks2 := 0) dX11_findMember_40 ml_X11_86 ok_X11_in ⟨rfl, rfl, rfl⟩ (by decide) (Nat.le_of_ble_eq_true rfl) rfl (m_in (by omega) (by omega) (by omega) (fun v40 e40 b40 => ?_))
        refine go_if_ne (y := mX11_findMember) (pc := 43) (tgt := 48) dX11_findMember_43 (by decide) (by omega) (fun h43 => ?_) (fun h43 => ?_)
        · skip
          refine go_iinc (y := mX11_findMember) (pc := 48) dX11_findMember_48 rfl (by decide) ?_
          refine go_goto (y := mX11_findMember) (pc := 51) (tgt := 22) dX11_findMember_51 (by decide) ?_
          rw [ltr, if_pos (kd_1.mpr (bI_1 e40 h43))] at hl
          exact ih (k + 1) (by omega) hl
        · skip
          refine go_iconst (y := mX11_findMember) (pc := 46) dX11_findMember_46 ?_
          refine go_ireturn (y := mX11_findMember) (pc := 47) dX11_findMember_47 rfl ?_
          rw [ltr, if_neg (fun w => bI_0 e40 h43 (kd_1.mp w))] at hl
          exact K (-1) (by rw [← hl, if_neg (fun w => absurd w.2.2 (by decide))]) (by decide)
  refine go_aload_n (y := mX11_findMember) (pc := 0) dX11_findMember_0 rfl rfl ?_
  refine go_iconst (y := mX11_findMember) (pc := 1) dX11_findMember_1 ?_
  refine go_mput (y := mX11_findMember) (pc := 2) dX11_findMember_2 fp_X11_83 rfl rfl (by decide) (by omega) ?_
  refine go_aload_n (y := mX11_findMember) (pc := 5) dX11_findMember_5 rfl rfl ?_
  refine go_mget (y := mX11_findMember) (pc := 6) dX11_findMember_6 fl_X11_67 rfl rfl (by decide) (fun r6 => ?_)
  refine go_top (b := ((L : Nat) : Int)) (b1) (fun t6 => ?_)
  refine go_iconst (y := mX11_findMember) (pc := 9) dX11_findMember_9 ?_
  refine go_bipush (y := mX11_findMember) (pc := 10) dX11_findMember_10 (by decide) ?_
  refine go_callS3 (y := mX11_findMember) (pc := 12) (y' := mX11_in) (kc2 := 0) (ks2 := 0) dX11_findMember_12 ml_X11_86 ok_X11_in ⟨rfl, rfl, rfl⟩ (by decide) (Nat.le_of_ble_eq_true rfl) rfl (m_in (by omega) (by omega) (by omega) (fun v12 e12 b12 => ?_))
  refine go_if_ne (y := mX11_findMember) (pc := 15) (tgt := 20) dX11_findMember_15 (by decide) (by omega) (fun h15 => ?_) (fun h15 => ?_)
  · skip
    have g := bI_1 e12 h15
    refine go_iconst (y := mX11_findMember) (pc := 20) dX11_findMember_20 ?_
    refine go_istore_n (y := mX11_findMember) (pc := 21) dX11_findMember_21 rfl (by decide) ?_
    exact loop (by omega) (by omega) L 0 (by omega) rfl
  · skip
    have g := bI_0 e12 h15
    refine go_iconst (y := mX11_findMember) (pc := 18) dX11_findMember_18 ?_
    refine go_ireturn (y := mX11_findMember) (pc := 19) dX11_findMember_19 rfl ?_
    exact K (-1) (by rw [if_neg (fun w => g ⟨by omega, by omega⟩)]) (by decide)
end MFind
