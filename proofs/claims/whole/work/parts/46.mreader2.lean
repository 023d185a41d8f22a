/-! THE MODEL'S READER: numbers, the end -/
theorem num3_0 {f : Int → Int} {L : Nat} {s : Nat × Int × Int} {a m : Int} (h : (num3 f L s a m).2.1 = 0) : s.2.1 = 0 ∧ tkK f s.1 = 2 ∧ a ≤ nmv f L s.1 ∧ nmv f L s.1 ≤ m := by
  unfold num3 at h
  by_cases g : s.2.1 = 0
  · by_cases k : tkK f s.1 = 2
    · rw [mus_t k] at h
      by_cases r : a ≤ nmv f L s.1 ∧ nmv f L s.1 ≤ m
      · exact ⟨g, k, r⟩
      · rw [mus_f g r, gon_c (s := (s.1, 2, (s.1 : Int))) (show (2 : Int) ≠ 0 by decide)] at h
        exact absurd h (show (2 : Int) ≠ 0 by decide)
    · rw [mus_f g k, mus_c (s := (s.1, 1, (s.1 : Int))) (show (1 : Int) ≠ 0 by decide), gon_c (s := (s.1, 1, (s.1 : Int))) (show (1 : Int) ≠ 0 by decide)] at h
      exact absurd h (show (1 : Int) ≠ 0 by decide)
  · rw [mus_c g, mus_c g, gon_c g] at h
    exact absurd h g
theorem mus_1 {s : Nat × Int × Int} {p : Prop} [Decidable p] {i : Int} : (mus s p i).1 = s.1 := by
  unfold mus
  split <;> rfl
section MReader2
variable {σ μ : Mem} {ν : Nat → Int} {f : Int → Int} {L : Nat} {s : Nat × Int × Int}
set_option maxRecDepth 8000 in
set_option maxHeartbeats 4000000 in
theorem m_number {a m : Int} (ha : rng a) (hm : rng m) (hr : rom f L s σ) {Q : Option Value → Mem → Prop} {X : String → Mem → Prop} (K : ∀ σ' v, rom f L (num3 f L s a m) σ' → smo σ' σ → ((num3 f L s a m).2.1 = 0 → v = nmv f L s.1) → Q (some (.int (iI v))) (md σ' ν μ)) : mt 289 3 0 0 mX11_number [.ref 276, .int (iI a), .int (iI m)] Q X (md σ ν μ) := by
  show go 289 3 0 0 mX11_number Q X 0 [.ref 276, .int (iI a), .int (iI m), .null] [] _
  have kb : 0 ≤ tkK f s.1 ∧ tkK f s.1 ≤ 4 := kd_b _
  have ht : tkT f s.1 = 2 ↔ tkK f s.1 = 2 := by
    unfold tkT
    by_cases g : tkK f s.1 = 3
    · rw [if_pos g]
      split <;> omega
    · rw [if_neg g]
  have tb : 0 ≤ tkT f s.1 ∧ tkT f s.1 ≤ 4 := by
    unfold tkT
    (repeat' split) <;> omega
  have J36 : ∀ (σ1 : Mem) (s1 : Nat × Int × Int), rom f L s1 σ1 → smo σ1 σ → gon f L s1 = num3 f L s a m → s1.1 = s.1 → go 289 3 0 0 mX11_number Q X 36 [.ref 276, .int (iI a), .int (iI m), .null] [] (md σ1 ν μ) := by
    intro σ1 s1 h1 h2 h3 h4
    refine go_aload_n (y := mX11_number) (pc := 36) dX11_number_36 rfl rfl ?_
    refine go_mget (y := mX11_number) (pc := 37) dX11_number_37 fl_X11_186 rfl rfl (by decide) (fun r37 => ?_)
    refine go_istore_n (y := mX11_number) (pc := 40) dX11_number_40 rfl (by decide) ?_
    refine go_aload_n (y := mX11_number) (pc := 41) dX11_number_41 rfl rfl ?_
    refine go_callV0 (y := mX11_number) (pc := 42) (y' := mX11_goesOn) (kc2 := 0) (ks2 := 0) dX11_number_42 ml_X11_208 ok_X11_goesOn (show shp 276 = _ from rfl) ⟨_, _, rfl⟩ (by decide) trivial (by decide) (Nat.le_of_ble_eq_true rfl) rfl (m_goesOn h1 (fun σ42 e42 w42 => ?_))
    refine go_iload_n (y := mX11_number) (pc := 45) dX11_number_45 rfl rfl ?_
    refine go_ireturn (y := mX11_number) (pc := 46) dX11_number_46 rfl ?_
    rw [h3] at e42
    refine K _ (σ1 0 15) e42 (smo_t w42 h2) (fun w => ?_)
    have h5 := h1.2.2.2.2.2.2.1
    rw [h4] at h5
    exact h5 (num3_0 w).2.1
  have J14 : ∀ c : Int, c = bI (tkK f s.1 = 2) → (c = 0 ∨ c = 1) → go 289 3 0 0 mX11_number Q X 14 [.ref 276, .int (iI a), .int (iI m), .null] [.int (iI c), .ref 276] (md σ ν μ) := by
    intro c hc cb
    refine go_iconst (y := mX11_number) (pc := 14) dX11_number_14 ?_
    refine go_callV2 (y := mX11_number) (pc := 15) (y' := mX11_must) (kc2 := 0) (ks2 := 0) dX11_number_15 ml_X11_205 ok_X11_must (show shp 276 = _ from rfl) ⟨_, _, rfl⟩ (by decide) ⟨rfl, rfl⟩ (by decide) (Nat.le_of_ble_eq_true rfl) rfl (m_must hc (by decide) hr (fun σ15 v15 e15 w15 x15 b15 => ?_))
    refine go_if_eq (y := mX11_number) (pc := 18) (tgt := 36) dX11_number_18 (by decide) (by omega) (fun h18 => ?_) (fun h18 => ?_)
    · skip
      have g := bI_0 x15 h18
      exact J36 σ15 _ e15 w15 (by unfold num3; rw [mus_c g]) mus_1
    · skip
      have g := bI_1 x15 h18
      have gs : s.2.1 = 0 ∧ tkK f s.1 = 2 := by
        by_cases g1 : s.2.1 = 0
        · by_cases g2 : tkK f s.1 = 2
          · exact ⟨g1, g2⟩
          · rw [mus_f g1 g2] at g
            exact absurd g (show (1 : Int) ≠ 0 by decide)
        · rw [mus_c g1] at g
          exact absurd g g1
      have hs : mus s (tkK f s.1 = 2) 1 = s := mus_t gs.2
      rw [hs] at e15
      have e15v := e15.2.2.2.2.2.2.1 gs.2
      refine go_aload_n (y := mX11_number) (pc := 21) dX11_number_21 rfl rfl ?_
      refine go_aload_n (y := mX11_number) (pc := 22) dX11_number_22 rfl rfl ?_
      refine go_mget (y := mX11_number) (pc := 23) dX11_number_23 fl_X11_186 rfl rfl (by decide) (fun r23 => ?_)
      refine go_top (b := nmv f L s.1) (e15v) (fun t23 => ?_)
      refine go_iload_n (y := mX11_number) (pc := 26) dX11_number_26 rfl rfl ?_
      refine go_iload_n (y := mX11_number) (pc := 27) dX11_number_27 rfl rfl ?_
      refine go_callS3 (y := mX11_number) (pc := 28) (y' := mX11_in) (kc2 := 0) (ks2 := 0) dX11_number_28 ml_X11_86 ok_X11_in ⟨rfl, rfl, rfl⟩ (by decide) (Nat.le_of_ble_eq_true rfl) rfl (m_in (by omega) (by omega) (by omega) (fun v28 e28 b28 => ?_))
      refine go_iconst (y := mX11_number) (pc := 31) dX11_number_31 ?_
      refine go_callV2 (y := mX11_number) (pc := 32) (y' := mX11_must) (kc2 := 0) (ks2 := 0) dX11_number_32 ml_X11_205 ok_X11_must (show shp 276 = _ from rfl) ⟨_, _, rfl⟩ (by decide) ⟨rfl, rfl⟩ (by decide) (Nat.le_of_ble_eq_true rfl) rfl (m_must e28 (by decide) e15 (fun σ32 v32 e32 w32 x32 b32 => ?_))
      refine go_pop (y := mX11_number) (pc := 35) dX11_number_35 rfl ?_
      exact J36 σ32 _ e32 (smo_t w32 w15) (by unfold num3; rw [hs]) mus_1
  obtain ⟨h0, h1, h2, h3, h4, h5, h6, h7⟩ := id hr
  refine go_aload_n (y := mX11_number) (pc := 0) dX11_number_0 rfl rfl ?_
  refine go_aload_n (y := mX11_number) (pc := 1) dX11_number_1 rfl rfl ?_
  refine go_mget (y := mX11_number) (pc := 2) dX11_number_2 fl_X11_183 rfl rfl (by decide) (fun r2 => ?_)
  refine go_top (b := tkT f s.1) (h2) (fun t2 => ?_)
  refine go_iconst (y := mX11_number) (pc := 5) dX11_number_5 ?_
  refine go_icmp_ne (y := mX11_number) (pc := 6) (tgt := 13) dX11_number_6 (by decide) (by omega) (by omega) (fun h6 => ?_) (fun h6 => ?_)
  · skip
    refine go_iconst (y := mX11_number) (pc := 13) dX11_number_13 ?_
    exact J14 0 (bI_f (fun w => absurd (ht.mpr w) (by omega))).symm (by omega)
  · skip
    refine go_iconst (y := mX11_number) (pc := 9) dX11_number_9 ?_
    refine go_goto (y := mX11_number) (pc := 10) (tgt := 14) dX11_number_10 (by decide) ?_
    exact J14 1 (bI_t (ht.mp (by omega))).symm (by omega)
set_option maxRecDepth 8000 in
set_option maxHeartbeats 4000000 in
theorem m_isWhole (hr : rom f L s σ) {Q : Option Value → Mem → Prop} {X : String → Mem → Prop} (K : ∀ v, v = bI (s.2.1 = 0) → v = 0 ∨ v = 1 → Q (some (.int (iI v))) (md (wr (wr (wr σ 0 9 0) 0 10 s.2.1) 0 11 s.2.2) ν μ)) : mt 289 0 0 0 mX11_isWhole [.ref 276] Q X (md σ ν μ) := by
  show go 289 0 0 0 mX11_isWhole Q X 0 [.ref 276] [] _
  obtain ⟨h0, h1, h2, h3, h4, h5, h6, h7⟩ := hr
  refine go_aload_n (y := mX11_isWhole) (pc := 0) dX11_isWhole_0 rfl rfl ?_
  refine go_iconst (y := mX11_isWhole) (pc := 1) dX11_isWhole_1 ?_
  refine go_mput (y := mX11_isWhole) (pc := 2) dX11_isWhole_2 fp_X11_67 rfl rfl (by decide) (by omega) ?_
  refine go_aload_n (y := mX11_isWhole) (pc := 5) dX11_isWhole_5 rfl rfl ?_
  refine go_aload_n (y := mX11_isWhole) (pc := 6) dX11_isWhole_6 rfl rfl ?_
  refine go_mget (y := mX11_isWhole) (pc := 7) dX11_isWhole_7 fl_X11_189 rfl rfl (by decide) (fun r7 => ?_)
  refine go_top (b := s.2.1) (((wr_ni (by decide)).trans h4)) (fun t7 => ?_)
  refine go_mput (y := mX11_isWhole) (pc := 10) dX11_isWhole_10 fp_X11_171 rfl rfl (by decide) (by omega) ?_
  refine go_aload_n (y := mX11_isWhole) (pc := 13) dX11_isWhole_13 rfl rfl ?_
  refine go_aload_n (y := mX11_isWhole) (pc := 14) dX11_isWhole_14 rfl rfl ?_
  refine go_mget (y := mX11_isWhole) (pc := 15) dX11_isWhole_15 fl_X11_192 rfl rfl (by decide) (fun r15 => ?_)
  refine go_top (b := s.2.2) ((((wr_ni (by decide)).trans (wr_ni (by decide))).trans h5)) (fun t15 => ?_)
  refine go_mput (y := mX11_isWhole) (pc := 18) dX11_isWhole_18 fp_X11_32 rfl rfl (by decide) (by omega) ?_
  refine go_aload_n (y := mX11_isWhole) (pc := 21) dX11_isWhole_21 rfl rfl ?_
  refine go_mget (y := mX11_isWhole) (pc := 22) dX11_isWhole_22 fl_X11_189 rfl rfl (by decide) (fun r22 => ?_)
  refine go_top (b := s.2.1) (((((wr_ni (by decide)).trans (wr_ni (by decide))).trans (wr_ni (by decide))).trans h4)) (fun t22 => ?_)
  refine go_if_ne (y := mX11_isWhole) (pc := 25) (tgt := 32) dX11_isWhole_25 (by decide) (by omega) (fun h25 => ?_) (fun h25 => ?_)
  · skip
    refine go_iconst (y := mX11_isWhole) (pc := 32) dX11_isWhole_32 ?_
    refine go_zreturn (y := mX11_isWhole) (pc := 33) dX11_isWhole_33 rfl (by omega) ?_
    exact K 0 (bI_f (by omega)).symm (by omega)
  · skip
    refine go_iconst (y := mX11_isWhole) (pc := 28) dX11_isWhole_28 ?_
    refine go_goto (y := mX11_isWhole) (pc := 29) (tgt := 33) dX11_isWhole_29 (by decide) ?_
    refine go_zreturn (y := mX11_isWhole) (pc := 33) dX11_isWhole_33 rfl (by omega) ?_
    exact K 1 (bI_t (by omega)).symm (by omega)
end MReader2
