/-! SCRIPTS RUN BY THE CLASS -/
theorem okP_le {τ : Mem} {a b : Nat} (h : okP τ b) (hab : a ≤ b) : okP τ a := ⟨by have := h.1; omega, fun k hk => h.2 k (by omega)⟩
theorem xs_st {x : Rst} {μ : Mem} : wr (wr (wr μ 4 6 x.2.1) 4 7 (if x.2.2 = true then 1 else 0)) 4 7 1 = wr (wr μ 4 6 x.2.1) 4 7 1 := wr_wr
theorem xs_ex {μ : Mem} {e e' v : Int} : wr (wr (wr μ 4 6 e) 4 7 v) 4 6 e' = wr (wr μ 4 6 e') 4 7 v := by
  rw [wr_cm (i := 7) (j := 6) (by decide), wr_wr]
section CRun2
variable {μ : Mem} {x : Rst} {b9 : Nat}
set_option maxRecDepth 8000 in
set_option maxHeartbeats 4000000 in
theorem r_runBlock0 {n a b : Nat} (hw : wfb μ 0 n a b) (ha30 : a ≤ 30) (hP : okP μ b9) (hb : b ≤ b9) (hS : wfS (su μ)) (hx : okR (su μ) x) {Q : Option Value → Mem → Prop} {X : String → Mem → Prop} (K : Q none (xs (rnB μ (su μ) n a b x) μ)) : mt 276 6 0 0 mX6_runBlock [.ref 4, .ref 20, .int (iI (a : Nat)), .int (iI (b : Nat)), .int (iI 2)] Q X (xs x μ) := by
  show go 276 6 0 0 mX6_runBlock Q X 0 [.ref 4, .ref 20, .int (iI (a : Nat)), .int (iI (b : Nat)), .int (iI 2), .null] [] _
  have hb30 : b ≤ 30 := by have := hP.1; omega
  obtain ⟨X9, eX⟩ : ∃ X9, X9 = rnB μ (su μ) n a b x := ⟨_, rfl⟩
  rw [← eX] at K
  have hSx : ∀ y : Rst, wfS (su (wr (wr μ 4 6 y.2.1) 4 7 (if y.2.2 = true then 1 else 0))) := fun y => by rw [su_xs]; exact hS
  have hμ : ∀ (y : Rst) (r j : Nat), r ≠ 4 → wr (wr μ 4 6 y.2.1) 4 7 (if y.2.2 = true then 1 else 0) r j = μ r j := fun y r j h => by rw [wr_na h, wr_na h]
  have loop : ∀ (n a0 : Nat) (y : Rst), wfb μ 0 n a0 b → a0 ≤ 30 → okR (su μ) y → rnB μ (su μ) n a0 b y = X9 → go 276 6 0 0 mX6_runBlock Q X 3 [.ref 4, .ref 20, .int (iI (a : Nat)), .int (iI (b : Nat)), .int (iI 2), .int (iI (a0 : Nat))] [] (xs y μ) := by
    intro n
    induction n with
    | zero =>
      intro a0 y hw h30 hy hq
      rw [rnB] at hq
      rw [← hq] at K
      have hw' : b ≤ a0 := hw
      refine go_iload (y := mX6_runBlock) (pc := 3) dX6_runBlock_3 rfl ?_
      refine go_iload_n (y := mX6_runBlock) (pc := 5) dX6_runBlock_5 rfl rfl ?_
      refine go_icmp_ge (y := mX6_runBlock) (pc := 6) (tgt := 103) dX6_runBlock_6 (by decide) (by omega) (by omega) (fun h6 => ?_) (fun h6 => ?_)
      · skip
        refine go_return (y := mX6_runBlock) (pc := 103) dX6_runBlock_103 rfl ?_
        exact K
      · skip
        exact absurd h6 (by omega)
    | succ n ih =>
      intro a0 y hw h30 hy hq
      have J103 : (b ≤ a0 ∨ y.2.2 = true) → go 276 6 0 0 mX6_runBlock Q X 103 [.ref 4, .ref 20, .int (iI (a : Nat)), .int (iI (b : Nat)), .int (iI 2), .int (iI (a0 : Nat))] [] (xs y μ) := by
        intro g
        rw [rnB, if_pos g] at hq
        rw [← hq] at K
        refine go_return (y := mX6_runBlock) (pc := 103) dX6_runBlock_103 rfl ?_
        exact K
      have hy2 := hy.2
      refine go_iload (y := mX6_runBlock) (pc := 3) dX6_runBlock_3 rfl ?_
      refine go_iload_n (y := mX6_runBlock) (pc := 5) dX6_runBlock_5 rfl rfl ?_
      refine go_icmp_ge (y := mX6_runBlock) (pc := 6) (tgt := 103) dX6_runBlock_6 (by decide) (by omega) (by omega) (fun h6 => ?_) (fun h6 => ?_)
      · skip
        exact J103 (Or.inl (by omega))
      · skip
        refine go_aload_n (y := mX6_runBlock) (pc := 9) dX6_runBlock_9 rfl rfl ?_
        refine go_bget (y := mX6_runBlock) (pc := 10) dX6_runBlock_10 fl_X6_34 rfl rfl (by decide) (by decide) (fun r10 => ?_)
        refine go_top (b := (if y.2.2 = true then 1 else 0)) ((wr_s _ _ _ _)) (fun t10 => ?_)
        refine go_if_ne (y := mX6_runBlock) (pc := 13) (tgt := 103) dX6_runBlock_13 (by decide) (by split <;> exact ⟨by decide, by decide⟩) (fun h13 => ?_) (fun h13 => ?_)
        · skip
          refine J103 (Or.inr ?_)
          by_cases g : y.2.2 = true
          · exact g
          · rw [if_neg g] at h13; exact absurd rfl h13
        · skip
          have hst : ¬ y.2.2 = true := fun g => by rw [if_pos g] at h13; exact absurd h13 (by decide)
          rw [rnB, if_neg (fun w => w.elim (fun w => by omega) hst)] at hq
          have hPa := hP.2 a0 (by omega)
          have J84 : ∀ (y2 : Rst) (nx : Nat), okR (su μ) y2 → μ 9 a0 = nx → a0 + 1 ≤ nx → nx ≤ 30 → wfb μ 0 n nx b → rnB μ (su μ) n nx b y2 = X9 → go 276 6 0 0 mX6_runBlock Q X 84 [.ref 4, .ref 20, .int (iI (a : Nat)), .int (iI (b : Nat)), .int (iI 2), .int (iI (a0 : Nat))] [] (xs y2 μ) := by
            intro y2 nx hy9 h9 hnx hnx30 hw9 hq9
            refine go_iload (y := mX6_runBlock) (pc := 84) dX6_runBlock_84 rfl ?_
            refine go_iconst (y := mX6_runBlock) (pc := 86) dX6_runBlock_86 ?_
            refine go_iadd (y := mX6_runBlock) (pc := 87) dX6_runBlock_87 ?_
            refine go_aload_n (y := mX6_runBlock) (pc := 88) dX6_runBlock_88 rfl rfl ?_
            refine go_getR (y := mX6_runBlock) (pc := 89) dX6_runBlock_89 fl_X6_24 rfl rfl (by decide) ?_
            refine go_iload (y := mX6_runBlock) (pc := 92) dX6_runBlock_92 rfl ?_
            refine go_bial (y := mX6_runBlock) (pc := 94) (k := a0) dX6_runBlock_94 rfl (by decide) (by decide) rfl (by omega) (by decide) (fun r94 => ?_)
            refine go_top (b := ((nx : Nat) : Int)) ((by rw [hμ y2 9 a0 (by decide)]; exact h9)) (fun t94 => ?_)
            refine go_mmax (y := mX6_runBlock) (pc := 95) dX6_runBlock_95 ml_X6_136 (by decide) (Nat.le_of_ble_eq_true rfl) (by omega) (by omega) ?_
            refine go_top (b := ((nx : Nat) : Int)) ((by omega)) (fun t95 => ?_)
            refine go_istore (y := mX6_runBlock) (pc := 98) dX6_runBlock_98 (by decide) ?_
            refine go_goto (y := mX6_runBlock) (pc := 100) (tgt := 3) dX6_runBlock_100 (by decide) ?_
            exact ih nx y2 hw9 hnx30 hy9 hq9
          refine go_aload_n (y := mX6_runBlock) (pc := 16) dX6_runBlock_16 rfl rfl ?_
          refine go_getR (y := mX6_runBlock) (pc := 17) dX6_runBlock_17 fl_X6_9 rfl rfl (by decide) ?_
          refine go_iload (y := mX6_runBlock) (pc := 20) dX6_runBlock_20 rfl ?_
          refine go_bial (y := mX6_runBlock) (pc := 22) (k := a0) dX6_runBlock_22 rfl (by decide) (by decide) rfl (by omega) (by decide) (fun r22 => ?_)
          refine go_top (b := μ 5 a0) ((hμ y 5 a0 (by decide))) (fun t22 => ?_)
          refine go_bipush (y := mX6_runBlock) (pc := 23) dX6_runBlock_23 (by decide) ?_
          refine go_icmp_ne (y := mX6_runBlock) (pc := 25) (tgt := 40) dX6_runBlock_25 (by decide) (by omega) (by omega) (fun h25 => ?_) (fun h25 => ?_)
          · skip
            have J59 : (40 ≤ y.2.1 ∨ rfC (su μ) y.1 (μ 5 a0) (μ 6 a0) (μ 8 a0) ≠ 0) → go 276 6 0 0 mX6_runBlock Q X 59 [.ref 4, .ref 20, .int (iI (a : Nat)), .int (iI (b : Nat)), .int (iI 2), .int (iI (a0 : Nat))] [] (xs y μ) := by
              intro g
              have e1 : one μ (su μ) a0 y = (y.1, y.2.1, true) := if_pos g
              refine go_aload_n (y := mX6_runBlock) (pc := 59) dX6_runBlock_59 rfl rfl ?_
              refine go_iconst (y := mX6_runBlock) (pc := 60) dX6_runBlock_60 ?_
              refine go_bputZ (y := mX6_runBlock) (pc := 61) dX6_runBlock_61 fp_X6_34 rfl rfl (by decide) (by decide) (by omega) ?_
              refine go_goto (y := mX6_runBlock) (pc := 64) (tgt := 84) dX6_runBlock_64 (by decide) ?_
              refine go_mem (show _ = xs (y.1, y.2.1, true) μ from congrArg (put 20 y.1) xs_st) ?_
              rcases hw with w | ⟨w1, w | ⟨w2, w9⟩⟩
              · omega
              · rw [if_neg w.1, e1] at hq
                exact J84 _ (a0 + 1) ⟨hy.1, hy.2⟩ w.2.1 (by omega) (by omega) w.2.2 hq
              · exact absurd w2 (by omega)
            refine go_aload_n (y := mX6_runBlock) (pc := 40) dX6_runBlock_40 rfl rfl ?_
            refine go_bget (y := mX6_runBlock) (pc := 41) dX6_runBlock_41 fl_X6_31 rfl rfl (by decide) (by decide) (fun r41 => ?_)
            refine go_top (b := y.2.1) ((by rw [wr_ni (by decide), wr_s])) (fun t41 => ?_)
            refine go_bipush (y := mX6_runBlock) (pc := 44) dX6_runBlock_44 (by decide) ?_
            refine go_icmp_ge (y := mX6_runBlock) (pc := 46) (tgt := 59) dX6_runBlock_46 (by decide) (by omega) (by omega) (fun h46 => ?_) (fun h46 => ?_)
            · skip
              exact J59 (Or.inl (by omega))
            · skip
              refine go_aload_n (y := mX6_runBlock) (pc := 49) dX6_runBlock_49 rfl rfl ?_
              refine go_aload_n (y := mX6_runBlock) (pc := 50) dX6_runBlock_50 rfl rfl ?_
              refine go_iload (y := mX6_runBlock) (pc := 51) dX6_runBlock_51 rfl ?_
              refine go_callV2 (y := mX6_runBlock) (pc := 53) (y' := mX6_refusalOf) (kc2 := 0) (ks2 := 0) dX6_runBlock_53 ml_X6_128 ok_X6_refusalOf (show shp 4 = _ from rfl) ⟨_, _, rfl⟩ (by decide) ⟨rfl, rfl⟩ (by decide) (Nat.le_of_ble_eq_true rfl) rfl (r_refusalOf (i := a0) (by omega) (by rw [hμ y 5 a0 (by decide)]; omega) (hSx y) (by rw [su_xs]; exact hy.1) (fun v53 e53 b53 => ?_))
              rw [su_xs, hμ y 5 a0 (by decide), hμ y 6 a0 (by decide), hμ y 8 a0 (by decide)] at e53
              refine go_if_eq (y := mX6_runBlock) (pc := 56) (tgt := 67) dX6_runBlock_56 (by decide) (by omega) (fun h56 => ?_) (fun h56 => ?_)
              · skip
                have g : ¬ (40 ≤ y.2.1 ∨ rfC (su μ) y.1 (μ 5 a0) (μ 6 a0) (μ 8 a0) ≠ 0) := fun w => w.elim (fun w => by omega) (fun w => w (e53.symm.trans h56))
                have e1 : one μ (su μ) a0 y = (pfC (su μ) y.1 (μ 5 a0) (μ 6 a0) (μ 7 a0) (μ 8 a0), y.2.1 + 1, false) := if_neg g
                have hf0 : rfC (su μ) y.1 (μ 5 a0) (μ 6 a0) (μ 8 a0) = 0 := e53.symm.trans h56
                refine go_aload_n (y := mX6_runBlock) (pc := 67) dX6_runBlock_67 rfl rfl ?_
                refine go_aload_n (y := mX6_runBlock) (pc := 68) dX6_runBlock_68 rfl rfl ?_
                refine go_iload (y := mX6_runBlock) (pc := 69) dX6_runBlock_69 rfl ?_
                refine go_callV2 (y := mX6_runBlock) (pc := 71) (y' := mX6_perform) (kc2 := 0) (ks2 := 0) dX6_runBlock_71 ml_X6_132 ok_X6_perform (show shp 4 = _ from rfl) ⟨_, _, rfl⟩ (by decide) ⟨rfl, rfl⟩ (by decide) (Nat.le_of_ble_eq_true rfl) rfl (r_perform (i := a0) (by omega) (by rw [hμ y 5 a0 (by decide)]; omega) (by rw [hμ y 5 a0 (by decide), hμ y 7 a0 (by decide)]; exact hPa.2.1) (by rw [su_xs, hμ y 5 a0 (by decide), hμ y 6 a0 (by decide), hμ y 8 a0 (by decide)]; exact hf0) (hSx y) (by rw [su_xs]; exact hy.1) ?_)
                rw [su_xs, hμ y 5 a0 (by decide), hμ y 6 a0 (by decide), hμ y 7 a0 (by decide), hμ y 8 a0 (by decide)]
                refine go_aload_n (y := mX6_runBlock) (pc := 74) dX6_runBlock_74 rfl rfl ?_
                refine go_dup (y := mX6_runBlock) (pc := 75) dX6_runBlock_75 rfl ?_
                refine go_bget (y := mX6_runBlock) (pc := 76) dX6_runBlock_76 fl_X6_31 rfl rfl (by decide) (by decide) (fun r76 => ?_)
                refine go_top (b := y.2.1) ((by rw [wr_ni (by decide), wr_s])) (fun t76 => ?_)
                refine go_iconst (y := mX6_runBlock) (pc := 79) dX6_runBlock_79 ?_
                refine go_iadd (y := mX6_runBlock) (pc := 80) dX6_runBlock_80 ?_
                refine go_bput (y := mX6_runBlock) (pc := 81) dX6_runBlock_81 fp_X6_31 rfl rfl (by decide) (by decide) (by omega) ?_
                have em : put 20 (pfC (su μ) y.1 (μ 5 a0) (μ 6 a0) (μ 7 a0) (μ 8 a0)) (wr (wr (wr μ 4 6 y.2.1) 4 7 (if y.2.2 = true then 1 else 0)) 4 6 (y.2.1 + 1)) = xs (pfC (su μ) y.1 (μ 5 a0) (μ 6 a0) (μ 7 a0) (μ 8 a0), y.2.1 + 1, false) μ := by
                  rw [xs_ex, if_neg hst]
                  rfl
                refine go_mem em ?_
                rcases hw with w | ⟨w1, w | ⟨w2, w9⟩⟩
                · omega
                · rw [if_neg w.1] at hq
                  have hk := ok_one (i := a0) hS hP (by omega) hy
                  rw [e1] at hk hq
                  exact J84 _ (a0 + 1) hk w.2.1 (by omega) (by omega) w.2.2 hq
                · exact absurd w2 (by omega)
              · skip
                exact J59 (Or.inr (fun w => h56 (e53.trans w)))
          · skip
            skip
            rcases hw with w | ⟨w1, w | ⟨w2, w3, w9⟩⟩
            · omega
            · exact absurd (show μ 5 a0 = 8 by omega) w.1
            · exact absurd w3 (by decide)
  refine go_iload_n (y := mX6_runBlock) (pc := 0) dX6_runBlock_0 rfl rfl ?_
  refine go_istore (y := mX6_runBlock) (pc := 1) dX6_runBlock_1 (by decide) ?_
  exact loop n a x hw ha30 hx eX.symm
set_option maxRecDepth 8000 in
set_option maxHeartbeats 4000000 in
theorem r_runRepeat1 {n i e : Nat} (hi : i < 30) (hw : wfb μ 0 n (i + 1) e) (he : μ 9 i = e) (hie : i + 1 ≤ e) (hP : okP μ b9) (hb : e ≤ b9) (h8 : 0 ≤ μ 8 i ∧ μ 8 i ≤ 20) (hS : wfS (su μ)) (hx : okR (su μ) x) {Q : Option Value → Mem → Prop} {X : String → Mem → Prop} (K : Q none (xs (itr (rnB μ (su μ) n (i + 1) e) (μ 8 i).toNat x) μ)) : mt 276 7 0 0 mX6_runRepeat [.ref 4, .ref 20, .int (iI (i : Nat)), .int (iI 1)] Q X (xs x μ) := by
  show go 276 7 0 0 mX6_runRepeat Q X 0 [.ref 4, .ref 20, .int (iI (i : Nat)), .int (iI 1), .null] [] _
  have he30 : e ≤ 30 := by have := hP.1; omega
  obtain ⟨G, eG⟩ : ∃ G, G = rnB μ (su μ) n (i + 1) e := ⟨_, rfl⟩
  rw [← eG] at K
  have hG : ∀ y, okR (su μ) y → okR (su μ) (G y) := fun y hy => by rw [eG]; exact ok_rnB hS hP n 0 (i + 1) e y hw hb hy
  have loop : ∀ (t k : Nat) (y : Rst), k + t = (μ 8 i).toNat → okR (su μ) y → itr G t y = itr G (μ 8 i).toNat x → go 276 7 0 0 mX6_runRepeat Q X 3 [.ref 4, .ref 20, .int (iI (i : Nat)), .int (iI 1), .int (iI (k : Nat))] [] (xs y μ) := by
    intro t
    induction t with
    | zero =>
      intro k y hk hy hq
      rw [itr] at hq
      rw [← hq] at K
      refine go_iload (y := mX6_runRepeat) (pc := 3) dX6_runRepeat_3 rfl ?_
      refine go_aload_n (y := mX6_runRepeat) (pc := 5) dX6_runRepeat_5 rfl rfl ?_
      refine go_getR (y := mX6_runRepeat) (pc := 6) dX6_runRepeat_6 fl_X6_21 rfl rfl (by decide) ?_
      refine go_iload_n (y := mX6_runRepeat) (pc := 9) dX6_runRepeat_9 rfl rfl ?_
      refine go_bial (y := mX6_runRepeat) (pc := 10) (k := i) dX6_runRepeat_10 rfl (by decide) (by decide) rfl (by omega) (by decide) (fun r10 => ?_)
      refine go_top (b := μ 8 i) ((by rw [wr_na (by decide), wr_na (by decide)])) (fun t10 => ?_)
      refine go_icmp_ge (y := mX6_runRepeat) (pc := 11) (tgt := 42) dX6_runRepeat_11 (by decide) (by omega) (by omega) (fun h11 => ?_) (fun h11 => ?_)
      · skip
        refine go_return (y := mX6_runRepeat) (pc := 42) dX6_runRepeat_42 rfl ?_
        exact K
      · skip
        exact absurd h11 (by omega)
    | succ t ih =>
      intro k y hk hy hq
      rw [itr] at hq
      refine go_iload (y := mX6_runRepeat) (pc := 3) dX6_runRepeat_3 rfl ?_
      refine go_aload_n (y := mX6_runRepeat) (pc := 5) dX6_runRepeat_5 rfl rfl ?_
      refine go_getR (y := mX6_runRepeat) (pc := 6) dX6_runRepeat_6 fl_X6_21 rfl rfl (by decide) ?_
      refine go_iload_n (y := mX6_runRepeat) (pc := 9) dX6_runRepeat_9 rfl rfl ?_
      refine go_bial (y := mX6_runRepeat) (pc := 10) (k := i) dX6_runRepeat_10 rfl (by decide) (by decide) rfl (by omega) (by decide) (fun r10 => ?_)
      refine go_top (b := μ 8 i) ((by rw [wr_na (by decide), wr_na (by decide)])) (fun t10 => ?_)
      refine go_icmp_ge (y := mX6_runRepeat) (pc := 11) (tgt := 42) dX6_runRepeat_11 (by decide) (by omega) (by omega) (fun h11 => ?_) (fun h11 => ?_)
      · skip
        exact absurd h11 (by omega)
      · skip
        refine go_iload_n (y := mX6_runRepeat) (pc := 14) dX6_runRepeat_14 rfl rfl ?_
        refine go_iconst (y := mX6_runRepeat) (pc := 15) dX6_runRepeat_15 ?_
        refine go_icmp_ge (y := mX6_runRepeat) (pc := 16) (tgt := 42) dX6_runRepeat_16 (by decide) (by omega) (by omega) (fun h16 => ?_) (fun h16 => ?_)
        · skip
          exact absurd h16 (by decide)
        · skip
          refine go_aload_n (y := mX6_runRepeat) (pc := 19) dX6_runRepeat_19 rfl rfl ?_
          refine go_aload_n (y := mX6_runRepeat) (pc := 20) dX6_runRepeat_20 rfl rfl ?_
          refine go_iload_n (y := mX6_runRepeat) (pc := 21) dX6_runRepeat_21 rfl rfl ?_
          refine go_iconst (y := mX6_runRepeat) (pc := 22) dX6_runRepeat_22 ?_
          refine go_iadd (y := mX6_runRepeat) (pc := 23) dX6_runRepeat_23 ?_
          refine go_aload_n (y := mX6_runRepeat) (pc := 24) dX6_runRepeat_24 rfl rfl ?_
          refine go_getR (y := mX6_runRepeat) (pc := 25) dX6_runRepeat_25 fl_X6_24 rfl rfl (by decide) ?_
          refine go_iload_n (y := mX6_runRepeat) (pc := 28) dX6_runRepeat_28 rfl rfl ?_
          refine go_bial (y := mX6_runRepeat) (pc := 29) (k := i) dX6_runRepeat_29 rfl (by decide) (by decide) rfl (by omega) (by decide) (fun r29 => ?_)
          refine go_top (b := ((e : Nat) : Int)) ((by rw [wr_na (by decide), wr_na (by decide)]; exact he)) (fun t29 => ?_)
          refine go_iload_n (y := mX6_runRepeat) (pc := 30) dX6_runRepeat_30 rfl rfl ?_
          refine go_iconst (y := mX6_runRepeat) (pc := 31) dX6_runRepeat_31 ?_
          refine go_iadd (y := mX6_runRepeat) (pc := 32) dX6_runRepeat_32 ?_
          refine go_callV4 (y := mX6_runRepeat) (pc := 33) (y' := mX6_runBlock) (kc2 := 0) (ks2 := 0) dX6_runRepeat_33 ml_X6_141 ok_X6_runBlock (show shp 4 = _ from rfl) ⟨_, _, rfl⟩ (by decide) ⟨rfl, rfl, rfl, rfl⟩ (by decide) (Nat.le_of_ble_eq_true rfl) rfl (r_runBlock0 (x := y) (n := n) (a := i + 1) (b := e) hw (by omega) hP hb hS hy ?_)
          rw [← eG]
          refine go_iinc (y := mX6_runRepeat) (pc := 36) dX6_runRepeat_36 rfl (by decide) ?_
          refine go_goto (y := mX6_runRepeat) (pc := 39) (tgt := 3) dX6_runRepeat_39 (by decide) ?_
          exact ih (k + 1) (G y) (by omega) (hG y hy) hq
  refine go_iconst (y := mX6_runRepeat) (pc := 0) dX6_runRepeat_0 ?_
  refine go_istore (y := mX6_runRepeat) (pc := 1) dX6_runRepeat_1 (by decide) ?_
  exact loop (μ 8 i).toNat 0 x (by omega) hx rfl
set_option maxRecDepth 8000 in
set_option maxHeartbeats 4000000 in
theorem r_runBlock1 {n a b : Nat} (hw : wfb μ 1 n a b) (ha30 : a ≤ 30) (hP : okP μ b9) (hb : b ≤ b9) (hS : wfS (su μ)) (hx : okR (su μ) x) {Q : Option Value → Mem → Prop} {X : String → Mem → Prop} (K : Q none (xs (rnB μ (su μ) n a b x) μ)) : mt 276 8 0 0 mX6_runBlock [.ref 4, .ref 20, .int (iI (a : Nat)), .int (iI (b : Nat)), .int (iI 1)] Q X (xs x μ) := by
  show go 276 8 0 0 mX6_runBlock Q X 0 [.ref 4, .ref 20, .int (iI (a : Nat)), .int (iI (b : Nat)), .int (iI 1), .null] [] _
  have hb30 : b ≤ 30 := by have := hP.1; omega
  obtain ⟨X9, eX⟩ : ∃ X9, X9 = rnB μ (su μ) n a b x := ⟨_, rfl⟩
  rw [← eX] at K
  have hSx : ∀ y : Rst, wfS (su (wr (wr μ 4 6 y.2.1) 4 7 (if y.2.2 = true then 1 else 0))) := fun y => by rw [su_xs]; exact hS
  have hμ : ∀ (y : Rst) (r j : Nat), r ≠ 4 → wr (wr μ 4 6 y.2.1) 4 7 (if y.2.2 = true then 1 else 0) r j = μ r j := fun y r j h => by rw [wr_na h, wr_na h]
  have loop : ∀ (n a0 : Nat) (y : Rst), wfb μ 1 n a0 b → a0 ≤ 30 → okR (su μ) y → rnB μ (su μ) n a0 b y = X9 → go 276 8 0 0 mX6_runBlock Q X 3 [.ref 4, .ref 20, .int (iI (a : Nat)), .int (iI (b : Nat)), .int (iI 1), .int (iI (a0 : Nat))] [] (xs y μ) := by
    intro n
    induction n with
    | zero =>
      intro a0 y hw h30 hy hq
      rw [rnB] at hq
      rw [← hq] at K
      have hw' : b ≤ a0 := hw
      refine go_iload (y := mX6_runBlock) (pc := 3) dX6_runBlock_3 rfl ?_
      refine go_iload_n (y := mX6_runBlock) (pc := 5) dX6_runBlock_5 rfl rfl ?_
      refine go_icmp_ge (y := mX6_runBlock) (pc := 6) (tgt := 103) dX6_runBlock_6 (by decide) (by omega) (by omega) (fun h6 => ?_) (fun h6 => ?_)
      · skip
        refine go_return (y := mX6_runBlock) (pc := 103) dX6_runBlock_103 rfl ?_
        exact K
      · skip
        exact absurd h6 (by omega)
    | succ n ih =>
      intro a0 y hw h30 hy hq
      have J103 : (b ≤ a0 ∨ y.2.2 = true) → go 276 8 0 0 mX6_runBlock Q X 103 [.ref 4, .ref 20, .int (iI (a : Nat)), .int (iI (b : Nat)), .int (iI 1), .int (iI (a0 : Nat))] [] (xs y μ) := by
        intro g
        rw [rnB, if_pos g] at hq
        rw [← hq] at K
        refine go_return (y := mX6_runBlock) (pc := 103) dX6_runBlock_103 rfl ?_
        exact K
      have hy2 := hy.2
      refine go_iload (y := mX6_runBlock) (pc := 3) dX6_runBlock_3 rfl ?_
      refine go_iload_n (y := mX6_runBlock) (pc := 5) dX6_runBlock_5 rfl rfl ?_
      refine go_icmp_ge (y := mX6_runBlock) (pc := 6) (tgt := 103) dX6_runBlock_6 (by decide) (by omega) (by omega) (fun h6 => ?_) (fun h6 => ?_)
      · skip
        exact J103 (Or.inl (by omega))
      · skip
        refine go_aload_n (y := mX6_runBlock) (pc := 9) dX6_runBlock_9 rfl rfl ?_
        refine go_bget (y := mX6_runBlock) (pc := 10) dX6_runBlock_10 fl_X6_34 rfl rfl (by decide) (by decide) (fun r10 => ?_)
        refine go_top (b := (if y.2.2 = true then 1 else 0)) ((wr_s _ _ _ _)) (fun t10 => ?_)
        refine go_if_ne (y := mX6_runBlock) (pc := 13) (tgt := 103) dX6_runBlock_13 (by decide) (by split <;> exact ⟨by decide, by decide⟩) (fun h13 => ?_) (fun h13 => ?_)
        · skip
          refine J103 (Or.inr ?_)
          by_cases g : y.2.2 = true
          · exact g
          · rw [if_neg g] at h13; exact absurd rfl h13
        · skip
          have hst : ¬ y.2.2 = true := fun g => by rw [if_pos g] at h13; exact absurd h13 (by decide)
          rw [rnB, if_neg (fun w => w.elim (fun w => by omega) hst)] at hq
          have hPa := hP.2 a0 (by omega)
          have J84 : ∀ (y2 : Rst) (nx : Nat), okR (su μ) y2 → μ 9 a0 = nx → a0 + 1 ≤ nx → nx ≤ 30 → wfb μ 1 n nx b → rnB μ (su μ) n nx b y2 = X9 → go 276 8 0 0 mX6_runBlock Q X 84 [.ref 4, .ref 20, .int (iI (a : Nat)), .int (iI (b : Nat)), .int (iI 1), .int (iI (a0 : Nat))] [] (xs y2 μ) := by
            intro y2 nx hy9 h9 hnx hnx30 hw9 hq9
            refine go_iload (y := mX6_runBlock) (pc := 84) dX6_runBlock_84 rfl ?_
            refine go_iconst (y := mX6_runBlock) (pc := 86) dX6_runBlock_86 ?_
            refine go_iadd (y := mX6_runBlock) (pc := 87) dX6_runBlock_87 ?_
            refine go_aload_n (y := mX6_runBlock) (pc := 88) dX6_runBlock_88 rfl rfl ?_
            refine go_getR (y := mX6_runBlock) (pc := 89) dX6_runBlock_89 fl_X6_24 rfl rfl (by decide) ?_
            refine go_iload (y := mX6_runBlock) (pc := 92) dX6_runBlock_92 rfl ?_
            refine go_bial (y := mX6_runBlock) (pc := 94) (k := a0) dX6_runBlock_94 rfl (by decide) (by decide) rfl (by omega) (by decide) (fun r94 => ?_)
            refine go_top (b := ((nx : Nat) : Int)) ((by rw [hμ y2 9 a0 (by decide)]; exact h9)) (fun t94 => ?_)
            refine go_mmax (y := mX6_runBlock) (pc := 95) dX6_runBlock_95 ml_X6_136 (by decide) (Nat.le_of_ble_eq_true rfl) (by omega) (by omega) ?_
            refine go_top (b := ((nx : Nat) : Int)) ((by omega)) (fun t95 => ?_)
            refine go_istore (y := mX6_runBlock) (pc := 98) dX6_runBlock_98 (by decide) ?_
            refine go_goto (y := mX6_runBlock) (pc := 100) (tgt := 3) dX6_runBlock_100 (by decide) ?_
            exact ih nx y2 hw9 hnx30 hy9 hq9
          refine go_aload_n (y := mX6_runBlock) (pc := 16) dX6_runBlock_16 rfl rfl ?_
          refine go_getR (y := mX6_runBlock) (pc := 17) dX6_runBlock_17 fl_X6_9 rfl rfl (by decide) ?_
          refine go_iload (y := mX6_runBlock) (pc := 20) dX6_runBlock_20 rfl ?_
          refine go_bial (y := mX6_runBlock) (pc := 22) (k := a0) dX6_runBlock_22 rfl (by decide) (by decide) rfl (by omega) (by decide) (fun r22 => ?_)
          refine go_top (b := μ 5 a0) ((hμ y 5 a0 (by decide))) (fun t22 => ?_)
          refine go_bipush (y := mX6_runBlock) (pc := 23) dX6_runBlock_23 (by decide) ?_
          refine go_icmp_ne (y := mX6_runBlock) (pc := 25) (tgt := 40) dX6_runBlock_25 (by decide) (by omega) (by omega) (fun h25 => ?_) (fun h25 => ?_)
          · skip
            have J59 : (40 ≤ y.2.1 ∨ rfC (su μ) y.1 (μ 5 a0) (μ 6 a0) (μ 8 a0) ≠ 0) → go 276 8 0 0 mX6_runBlock Q X 59 [.ref 4, .ref 20, .int (iI (a : Nat)), .int (iI (b : Nat)), .int (iI 1), .int (iI (a0 : Nat))] [] (xs y μ) := by
              intro g
              have e1 : one μ (su μ) a0 y = (y.1, y.2.1, true) := if_pos g
              refine go_aload_n (y := mX6_runBlock) (pc := 59) dX6_runBlock_59 rfl rfl ?_
              refine go_iconst (y := mX6_runBlock) (pc := 60) dX6_runBlock_60 ?_
              refine go_bputZ (y := mX6_runBlock) (pc := 61) dX6_runBlock_61 fp_X6_34 rfl rfl (by decide) (by decide) (by omega) ?_
              refine go_goto (y := mX6_runBlock) (pc := 64) (tgt := 84) dX6_runBlock_64 (by decide) ?_
              refine go_mem (show _ = xs (y.1, y.2.1, true) μ from congrArg (put 20 y.1) xs_st) ?_
              rcases hw with w | ⟨w1, w | ⟨w2, w9⟩⟩
              · omega
              · rw [if_neg w.1, e1] at hq
                exact J84 _ (a0 + 1) ⟨hy.1, hy.2⟩ w.2.1 (by omega) (by omega) w.2.2 hq
              · exact absurd w2 (by omega)
            refine go_aload_n (y := mX6_runBlock) (pc := 40) dX6_runBlock_40 rfl rfl ?_
            refine go_bget (y := mX6_runBlock) (pc := 41) dX6_runBlock_41 fl_X6_31 rfl rfl (by decide) (by decide) (fun r41 => ?_)
            refine go_top (b := y.2.1) ((by rw [wr_ni (by decide), wr_s])) (fun t41 => ?_)
            refine go_bipush (y := mX6_runBlock) (pc := 44) dX6_runBlock_44 (by decide) ?_
            refine go_icmp_ge (y := mX6_runBlock) (pc := 46) (tgt := 59) dX6_runBlock_46 (by decide) (by omega) (by omega) (fun h46 => ?_) (fun h46 => ?_)
            · skip
              exact J59 (Or.inl (by omega))
            · skip
              refine go_aload_n (y := mX6_runBlock) (pc := 49) dX6_runBlock_49 rfl rfl ?_
              refine go_aload_n (y := mX6_runBlock) (pc := 50) dX6_runBlock_50 rfl rfl ?_
              refine go_iload (y := mX6_runBlock) (pc := 51) dX6_runBlock_51 rfl ?_
              refine go_callV2 (y := mX6_runBlock) (pc := 53) (y' := mX6_refusalOf) (kc2 := 0) (ks2 := 0) dX6_runBlock_53 ml_X6_128 ok_X6_refusalOf (show shp 4 = _ from rfl) ⟨_, _, rfl⟩ (by decide) ⟨rfl, rfl⟩ (by decide) (Nat.le_of_ble_eq_true rfl) rfl (r_refusalOf (i := a0) (by omega) (by rw [hμ y 5 a0 (by decide)]; omega) (hSx y) (by rw [su_xs]; exact hy.1) (fun v53 e53 b53 => ?_))
              rw [su_xs, hμ y 5 a0 (by decide), hμ y 6 a0 (by decide), hμ y 8 a0 (by decide)] at e53
              refine go_if_eq (y := mX6_runBlock) (pc := 56) (tgt := 67) dX6_runBlock_56 (by decide) (by omega) (fun h56 => ?_) (fun h56 => ?_)
              · skip
                have g : ¬ (40 ≤ y.2.1 ∨ rfC (su μ) y.1 (μ 5 a0) (μ 6 a0) (μ 8 a0) ≠ 0) := fun w => w.elim (fun w => by omega) (fun w => w (e53.symm.trans h56))
                have e1 : one μ (su μ) a0 y = (pfC (su μ) y.1 (μ 5 a0) (μ 6 a0) (μ 7 a0) (μ 8 a0), y.2.1 + 1, false) := if_neg g
                have hf0 : rfC (su μ) y.1 (μ 5 a0) (μ 6 a0) (μ 8 a0) = 0 := e53.symm.trans h56
                refine go_aload_n (y := mX6_runBlock) (pc := 67) dX6_runBlock_67 rfl rfl ?_
                refine go_aload_n (y := mX6_runBlock) (pc := 68) dX6_runBlock_68 rfl rfl ?_
                refine go_iload (y := mX6_runBlock) (pc := 69) dX6_runBlock_69 rfl ?_
                refine go_callV2 (y := mX6_runBlock) (pc := 71) (y' := mX6_perform) (kc2 := 0) (ks2 := 0) dX6_runBlock_71 ml_X6_132 ok_X6_perform (show shp 4 = _ from rfl) ⟨_, _, rfl⟩ (by decide) ⟨rfl, rfl⟩ (by decide) (Nat.le_of_ble_eq_true rfl) rfl (r_perform (i := a0) (by omega) (by rw [hμ y 5 a0 (by decide)]; omega) (by rw [hμ y 5 a0 (by decide), hμ y 7 a0 (by decide)]; exact hPa.2.1) (by rw [su_xs, hμ y 5 a0 (by decide), hμ y 6 a0 (by decide), hμ y 8 a0 (by decide)]; exact hf0) (hSx y) (by rw [su_xs]; exact hy.1) ?_)
                rw [su_xs, hμ y 5 a0 (by decide), hμ y 6 a0 (by decide), hμ y 7 a0 (by decide), hμ y 8 a0 (by decide)]
                refine go_aload_n (y := mX6_runBlock) (pc := 74) dX6_runBlock_74 rfl rfl ?_
                refine go_dup (y := mX6_runBlock) (pc := 75) dX6_runBlock_75 rfl ?_
                refine go_bget (y := mX6_runBlock) (pc := 76) dX6_runBlock_76 fl_X6_31 rfl rfl (by decide) (by decide) (fun r76 => ?_)
                refine go_top (b := y.2.1) ((by rw [wr_ni (by decide), wr_s])) (fun t76 => ?_)
                refine go_iconst (y := mX6_runBlock) (pc := 79) dX6_runBlock_79 ?_
                refine go_iadd (y := mX6_runBlock) (pc := 80) dX6_runBlock_80 ?_
                refine go_bput (y := mX6_runBlock) (pc := 81) dX6_runBlock_81 fp_X6_31 rfl rfl (by decide) (by decide) (by omega) ?_
                have em : put 20 (pfC (su μ) y.1 (μ 5 a0) (μ 6 a0) (μ 7 a0) (μ 8 a0)) (wr (wr (wr μ 4 6 y.2.1) 4 7 (if y.2.2 = true then 1 else 0)) 4 6 (y.2.1 + 1)) = xs (pfC (su μ) y.1 (μ 5 a0) (μ 6 a0) (μ 7 a0) (μ 8 a0), y.2.1 + 1, false) μ := by
                  rw [xs_ex, if_neg hst]
                  rfl
                refine go_mem em ?_
                rcases hw with w | ⟨w1, w | ⟨w2, w9⟩⟩
                · omega
                · rw [if_neg w.1] at hq
                  have hk := ok_one (i := a0) hS hP (by omega) hy
                  rw [e1] at hk hq
                  exact J84 _ (a0 + 1) hk w.2.1 (by omega) (by omega) w.2.2 hq
                · exact absurd w2 (by omega)
              · skip
                exact J59 (Or.inr (fun w => h56 (e53.trans w)))
          · skip
            skip
            rcases hw with w | ⟨w1, w | ⟨w2, w3, e, w4, w5, w6, w7, w8⟩⟩
            · omega
            · exact absurd (show μ 5 a0 = 8 by omega) w.1
            · skip
              refine go_aload_n (y := mX6_runBlock) (pc := 28) dX6_runBlock_28 rfl rfl ?_
              refine go_aload_n (y := mX6_runBlock) (pc := 29) dX6_runBlock_29 rfl rfl ?_
              refine go_iload (y := mX6_runBlock) (pc := 30) dX6_runBlock_30 rfl ?_
              refine go_iload (y := mX6_runBlock) (pc := 32) dX6_runBlock_32 rfl ?_
              refine go_callV3 (y := mX6_runBlock) (pc := 34) (y' := mX6_runRepeat) (kc2 := 0) (ks2 := 0) dX6_runBlock_34 ml_X6_124 ok_X6_runRepeat (show shp 4 = _ from rfl) ⟨_, _, rfl⟩ (by decide) ⟨rfl, rfl, rfl⟩ (by decide) (Nat.le_of_ble_eq_true rfl) rfl (r_runRepeat1 (x := y) (n := n) (i := a0) (e := e) (by omega) w7 w6 (by omega) hP (by omega) (hPa.2.2 w2) hS hy ?_)
              refine go_goto (y := mX6_runBlock) (pc := 37) (tgt := 84) dX6_runBlock_37 (by decide) ?_
              rw [if_pos w2, w6] at hq
              exact J84 _ e (ok_itr (fun z hz => ok_rnB hS hP n 0 (a0 + 1) e z w7 (by omega) hz) _ y hy) w6 (by omega) (by omega) w8 hq
  refine go_iload_n (y := mX6_runBlock) (pc := 0) dX6_runBlock_0 rfl rfl ?_
  refine go_istore (y := mX6_runBlock) (pc := 1) dX6_runBlock_1 (by decide) ?_
  exact loop n a x hw ha30 hx eX.symm
set_option maxRecDepth 8000 in
set_option maxHeartbeats 4000000 in
theorem r_runRepeat2 {n i e : Nat} (hi : i < 30) (hw : wfb μ 1 n (i + 1) e) (he : μ 9 i = e) (hie : i + 1 ≤ e) (hP : okP μ b9) (hb : e ≤ b9) (h8 : 0 ≤ μ 8 i ∧ μ 8 i ≤ 20) (hS : wfS (su μ)) (hx : okR (su μ) x) {Q : Option Value → Mem → Prop} {X : String → Mem → Prop} (K : Q none (xs (itr (rnB μ (su μ) n (i + 1) e) (μ 8 i).toNat x) μ)) : mt 276 9 0 0 mX6_runRepeat [.ref 4, .ref 20, .int (iI (i : Nat)), .int (iI 0)] Q X (xs x μ) := by
  show go 276 9 0 0 mX6_runRepeat Q X 0 [.ref 4, .ref 20, .int (iI (i : Nat)), .int (iI 0), .null] [] _
  have he30 : e ≤ 30 := by have := hP.1; omega
  obtain ⟨G, eG⟩ : ∃ G, G = rnB μ (su μ) n (i + 1) e := ⟨_, rfl⟩
  rw [← eG] at K
  have hG : ∀ y, okR (su μ) y → okR (su μ) (G y) := fun y hy => by rw [eG]; exact ok_rnB hS hP n 1 (i + 1) e y hw hb hy
  have loop : ∀ (t k : Nat) (y : Rst), k + t = (μ 8 i).toNat → okR (su μ) y → itr G t y = itr G (μ 8 i).toNat x → go 276 9 0 0 mX6_runRepeat Q X 3 [.ref 4, .ref 20, .int (iI (i : Nat)), .int (iI 0), .int (iI (k : Nat))] [] (xs y μ) := by
    intro t
    induction t with
    | zero =>
      intro k y hk hy hq
      rw [itr] at hq
      rw [← hq] at K
      refine go_iload (y := mX6_runRepeat) (pc := 3) dX6_runRepeat_3 rfl ?_
      refine go_aload_n (y := mX6_runRepeat) (pc := 5) dX6_runRepeat_5 rfl rfl ?_
      refine go_getR (y := mX6_runRepeat) (pc := 6) dX6_runRepeat_6 fl_X6_21 rfl rfl (by decide) ?_
      refine go_iload_n (y := mX6_runRepeat) (pc := 9) dX6_runRepeat_9 rfl rfl ?_
      refine go_bial (y := mX6_runRepeat) (pc := 10) (k := i) dX6_runRepeat_10 rfl (by decide) (by decide) rfl (by omega) (by decide) (fun r10 => ?_)
      refine go_top (b := μ 8 i) ((by rw [wr_na (by decide), wr_na (by decide)])) (fun t10 => ?_)
      refine go_icmp_ge (y := mX6_runRepeat) (pc := 11) (tgt := 42) dX6_runRepeat_11 (by decide) (by omega) (by omega) (fun h11 => ?_) (fun h11 => ?_)
      · skip
        refine go_return (y := mX6_runRepeat) (pc := 42) dX6_runRepeat_42 rfl ?_
        exact K
      · skip
        exact absurd h11 (by omega)
    | succ t ih =>
      intro k y hk hy hq
      rw [itr] at hq
      refine go_iload (y := mX6_runRepeat) (pc := 3) dX6_runRepeat_3 rfl ?_
      refine go_aload_n (y := mX6_runRepeat) (pc := 5) dX6_runRepeat_5 rfl rfl ?_
      refine go_getR (y := mX6_runRepeat) (pc := 6) dX6_runRepeat_6 fl_X6_21 rfl rfl (by decide) ?_
      refine go_iload_n (y := mX6_runRepeat) (pc := 9) dX6_runRepeat_9 rfl rfl ?_
      refine go_bial (y := mX6_runRepeat) (pc := 10) (k := i) dX6_runRepeat_10 rfl (by decide) (by decide) rfl (by omega) (by decide) (fun r10 => ?_)
      refine go_top (b := μ 8 i) ((by rw [wr_na (by decide), wr_na (by decide)])) (fun t10 => ?_)
      refine go_icmp_ge (y := mX6_runRepeat) (pc := 11) (tgt := 42) dX6_runRepeat_11 (by decide) (by omega) (by omega) (fun h11 => ?_) (fun h11 => ?_)
      · skip
        exact absurd h11 (by omega)
      · skip
        refine go_iload_n (y := mX6_runRepeat) (pc := 14) dX6_runRepeat_14 rfl rfl ?_
        refine go_iconst (y := mX6_runRepeat) (pc := 15) dX6_runRepeat_15 ?_
        refine go_icmp_ge (y := mX6_runRepeat) (pc := 16) (tgt := 42) dX6_runRepeat_16 (by decide) (by omega) (by omega) (fun h16 => ?_) (fun h16 => ?_)
        · skip
          exact absurd h16 (by decide)
        · skip
          refine go_aload_n (y := mX6_runRepeat) (pc := 19) dX6_runRepeat_19 rfl rfl ?_
          refine go_aload_n (y := mX6_runRepeat) (pc := 20) dX6_runRepeat_20 rfl rfl ?_
          refine go_iload_n (y := mX6_runRepeat) (pc := 21) dX6_runRepeat_21 rfl rfl ?_
          refine go_iconst (y := mX6_runRepeat) (pc := 22) dX6_runRepeat_22 ?_
          refine go_iadd (y := mX6_runRepeat) (pc := 23) dX6_runRepeat_23 ?_
          refine go_aload_n (y := mX6_runRepeat) (pc := 24) dX6_runRepeat_24 rfl rfl ?_
          refine go_getR (y := mX6_runRepeat) (pc := 25) dX6_runRepeat_25 fl_X6_24 rfl rfl (by decide) ?_
          refine go_iload_n (y := mX6_runRepeat) (pc := 28) dX6_runRepeat_28 rfl rfl ?_
          refine go_bial (y := mX6_runRepeat) (pc := 29) (k := i) dX6_runRepeat_29 rfl (by decide) (by decide) rfl (by omega) (by decide) (fun r29 => ?_)
          refine go_top (b := ((e : Nat) : Int)) ((by rw [wr_na (by decide), wr_na (by decide)]; exact he)) (fun t29 => ?_)
          refine go_iload_n (y := mX6_runRepeat) (pc := 30) dX6_runRepeat_30 rfl rfl ?_
          refine go_iconst (y := mX6_runRepeat) (pc := 31) dX6_runRepeat_31 ?_
          refine go_iadd (y := mX6_runRepeat) (pc := 32) dX6_runRepeat_32 ?_
          refine go_callV4 (y := mX6_runRepeat) (pc := 33) (y' := mX6_runBlock) (kc2 := 0) (ks2 := 0) dX6_runRepeat_33 ml_X6_141 ok_X6_runBlock (show shp 4 = _ from rfl) ⟨_, _, rfl⟩ (by decide) ⟨rfl, rfl, rfl, rfl⟩ (by decide) (Nat.le_of_ble_eq_true rfl) rfl (r_runBlock1 (x := y) (n := n) (a := i + 1) (b := e) hw (by omega) hP hb hS hy ?_)
          rw [← eG]
          refine go_iinc (y := mX6_runRepeat) (pc := 36) dX6_runRepeat_36 rfl (by decide) ?_
          refine go_goto (y := mX6_runRepeat) (pc := 39) (tgt := 3) dX6_runRepeat_39 (by decide) ?_
          exact ih (k + 1) (G y) (by omega) (hG y hy) hq
  refine go_iconst (y := mX6_runRepeat) (pc := 0) dX6_runRepeat_0 ?_
  refine go_istore (y := mX6_runRepeat) (pc := 1) dX6_runRepeat_1 (by decide) ?_
  exact loop (μ 8 i).toNat 0 x (by omega) hx rfl
set_option maxRecDepth 8000 in
set_option maxHeartbeats 4000000 in
theorem r_runBlock2 {n a b : Nat} (hw : wfb μ 2 n a b) (ha30 : a ≤ 30) (hP : okP μ b9) (hb : b ≤ b9) (hS : wfS (su μ)) (hx : okR (su μ) x) {Q : Option Value → Mem → Prop} {X : String → Mem → Prop} (K : Q none (xs (rnB μ (su μ) n a b x) μ)) : mt 276 10 0 0 mX6_runBlock [.ref 4, .ref 20, .int (iI (a : Nat)), .int (iI (b : Nat)), .int (iI 0)] Q X (xs x μ) := by
  show go 276 10 0 0 mX6_runBlock Q X 0 [.ref 4, .ref 20, .int (iI (a : Nat)), .int (iI (b : Nat)), .int (iI 0), .null] [] _
  have hb30 : b ≤ 30 := by have := hP.1; omega
  obtain ⟨X9, eX⟩ : ∃ X9, X9 = rnB μ (su μ) n a b x := ⟨_, rfl⟩
  rw [← eX] at K
  have hSx : ∀ y : Rst, wfS (su (wr (wr μ 4 6 y.2.1) 4 7 (if y.2.2 = true then 1 else 0))) := fun y => by rw [su_xs]; exact hS
  have hμ : ∀ (y : Rst) (r j : Nat), r ≠ 4 → wr (wr μ 4 6 y.2.1) 4 7 (if y.2.2 = true then 1 else 0) r j = μ r j := fun y r j h => by rw [wr_na h, wr_na h]
  have loop : ∀ (n a0 : Nat) (y : Rst), wfb μ 2 n a0 b → a0 ≤ 30 → okR (su μ) y → rnB μ (su μ) n a0 b y = X9 → go 276 10 0 0 mX6_runBlock Q X 3 [.ref 4, .ref 20, .int (iI (a : Nat)), .int (iI (b : Nat)), .int (iI 0), .int (iI (a0 : Nat))] [] (xs y μ) := by
    intro n
    induction n with
    | zero =>
      intro a0 y hw h30 hy hq
      rw [rnB] at hq
      rw [← hq] at K
      have hw' : b ≤ a0 := hw
      refine go_iload (y := mX6_runBlock) (pc := 3) dX6_runBlock_3 rfl ?_
      refine go_iload_n (y := mX6_runBlock) (pc := 5) dX6_runBlock_5 rfl rfl ?_
      refine go_icmp_ge (y := mX6_runBlock) (pc := 6) (tgt := 103) dX6_runBlock_6 (by decide) (by omega) (by omega) (fun h6 => ?_) (fun h6 => ?_)
      · skip
        refine go_return (y := mX6_runBlock) (pc := 103) dX6_runBlock_103 rfl ?_
        exact K
      · skip
        exact absurd h6 (by omega)
    | succ n ih =>
      intro a0 y hw h30 hy hq
      have J103 : (b ≤ a0 ∨ y.2.2 = true) → go 276 10 0 0 mX6_runBlock Q X 103 [.ref 4, .ref 20, .int (iI (a : Nat)), .int (iI (b : Nat)), .int (iI 0), .int (iI (a0 : Nat))] [] (xs y μ) := by
        intro g
        rw [rnB, if_pos g] at hq
        rw [← hq] at K
        refine go_return (y := mX6_runBlock) (pc := 103) dX6_runBlock_103 rfl ?_
        exact K
      have hy2 := hy.2
      refine go_iload (y := mX6_runBlock) (pc := 3) dX6_runBlock_3 rfl ?_
      refine go_iload_n (y := mX6_runBlock) (pc := 5) dX6_runBlock_5 rfl rfl ?_
      refine go_icmp_ge (y := mX6_runBlock) (pc := 6) (tgt := 103) dX6_runBlock_6 (by decide) (by omega) (by omega) (fun h6 => ?_) (fun h6 => ?_)
      · skip
        exact J103 (Or.inl (by omega))
      · skip
        refine go_aload_n (y := mX6_runBlock) (pc := 9) dX6_runBlock_9 rfl rfl ?_
        refine go_bget (y := mX6_runBlock) (pc := 10) dX6_runBlock_10 fl_X6_34 rfl rfl (by decide) (by decide) (fun r10 => ?_)
        refine go_top (b := (if y.2.2 = true then 1 else 0)) ((wr_s _ _ _ _)) (fun t10 => ?_)
        refine go_if_ne (y := mX6_runBlock) (pc := 13) (tgt := 103) dX6_runBlock_13 (by decide) (by split <;> exact ⟨by decide, by decide⟩) (fun h13 => ?_) (fun h13 => ?_)
        · skip
          refine J103 (Or.inr ?_)
          by_cases g : y.2.2 = true
          · exact g
          · rw [if_neg g] at h13; exact absurd rfl h13
        · skip
          have hst : ¬ y.2.2 = true := fun g => by rw [if_pos g] at h13; exact absurd h13 (by decide)
          rw [rnB, if_neg (fun w => w.elim (fun w => by omega) hst)] at hq
          have hPa := hP.2 a0 (by omega)
          have J84 : ∀ (y2 : Rst) (nx : Nat), okR (su μ) y2 → μ 9 a0 = nx → a0 + 1 ≤ nx → nx ≤ 30 → wfb μ 2 n nx b → rnB μ (su μ) n nx b y2 = X9 → go 276 10 0 0 mX6_runBlock Q X 84 [.ref 4, .ref 20, .int (iI (a : Nat)), .int (iI (b : Nat)), .int (iI 0), .int (iI (a0 : Nat))] [] (xs y2 μ) := by
            intro y2 nx hy9 h9 hnx hnx30 hw9 hq9
            refine go_iload (y := mX6_runBlock) (pc := 84) dX6_runBlock_84 rfl ?_
            refine go_iconst (y := mX6_runBlock) (pc := 86) dX6_runBlock_86 ?_
            refine go_iadd (y := mX6_runBlock) (pc := 87) dX6_runBlock_87 ?_
            refine go_aload_n (y := mX6_runBlock) (pc := 88) dX6_runBlock_88 rfl rfl ?_
            refine go_getR (y := mX6_runBlock) (pc := 89) dX6_runBlock_89 fl_X6_24 rfl rfl (by decide) ?_
            refine go_iload (y := mX6_runBlock) (pc := 92) dX6_runBlock_92 rfl ?_
            refine go_bial (y := mX6_runBlock) (pc := 94) (k := a0) dX6_runBlock_94 rfl (by decide) (by decide) rfl (by omega) (by decide) (fun r94 => ?_)
            refine go_top (b := ((nx : Nat) : Int)) ((by rw [hμ y2 9 a0 (by decide)]; exact h9)) (fun t94 => ?_)
            refine go_mmax (y := mX6_runBlock) (pc := 95) dX6_runBlock_95 ml_X6_136 (by decide) (Nat.le_of_ble_eq_true rfl) (by omega) (by omega) ?_
            refine go_top (b := ((nx : Nat) : Int)) ((by omega)) (fun t95 => ?_)
            refine go_istore (y := mX6_runBlock) (pc := 98) dX6_runBlock_98 (by decide) ?_
            refine go_goto (y := mX6_runBlock) (pc := 100) (tgt := 3) dX6_runBlock_100 (by decide) ?_
            exact ih nx y2 hw9 hnx30 hy9 hq9
          refine go_aload_n (y := mX6_runBlock) (pc := 16) dX6_runBlock_16 rfl rfl ?_
          refine go_getR (y := mX6_runBlock) (pc := 17) dX6_runBlock_17 fl_X6_9 rfl rfl (by decide) ?_
          refine go_iload (y := mX6_runBlock) (pc := 20) dX6_runBlock_20 rfl ?_
          refine go_bial (y := mX6_runBlock) (pc := 22) (k := a0) dX6_runBlock_22 rfl (by decide) (by decide) rfl (by omega) (by decide) (fun r22 => ?_)
          refine go_top (b := μ 5 a0) ((hμ y 5 a0 (by decide))) (fun t22 => ?_)
          refine go_bipush (y := mX6_runBlock) (pc := 23) dX6_runBlock_23 (by decide) ?_
          refine go_icmp_ne (y := mX6_runBlock) (pc := 25) (tgt := 40) dX6_runBlock_25 (by decide) (by omega) (by omega) (fun h25 => ?_) (fun h25 => ?_)
          · skip
            have J59 : (40 ≤ y.2.1 ∨ rfC (su μ) y.1 (μ 5 a0) (μ 6 a0) (μ 8 a0) ≠ 0) → go 276 10 0 0 mX6_runBlock Q X 59 [.ref 4, .ref 20, .int (iI (a : Nat)), .int (iI (b : Nat)), .int (iI 0), .int (iI (a0 : Nat))] [] (xs y μ) := by
              intro g
              have e1 : one μ (su μ) a0 y = (y.1, y.2.1, true) := if_pos g
              refine go_aload_n (y := mX6_runBlock) (pc := 59) dX6_runBlock_59 rfl rfl ?_
              refine go_iconst (y := mX6_runBlock) (pc := 60) dX6_runBlock_60 ?_
              refine go_bputZ (y := mX6_runBlock) (pc := 61) dX6_runBlock_61 fp_X6_34 rfl rfl (by decide) (by decide) (by omega) ?_
              refine go_goto (y := mX6_runBlock) (pc := 64) (tgt := 84) dX6_runBlock_64 (by decide) ?_
              refine go_mem (show _ = xs (y.1, y.2.1, true) μ from congrArg (put 20 y.1) xs_st) ?_
              rcases hw with w | ⟨w1, w | ⟨w2, w9⟩⟩
              · omega
              · rw [if_neg w.1, e1] at hq
                exact J84 _ (a0 + 1) ⟨hy.1, hy.2⟩ w.2.1 (by omega) (by omega) w.2.2 hq
              · exact absurd w2 (by omega)
            refine go_aload_n (y := mX6_runBlock) (pc := 40) dX6_runBlock_40 rfl rfl ?_
            refine go_bget (y := mX6_runBlock) (pc := 41) dX6_runBlock_41 fl_X6_31 rfl rfl (by decide) (by decide) (fun r41 => ?_)
            refine go_top (b := y.2.1) ((by rw [wr_ni (by decide), wr_s])) (fun t41 => ?_)
            refine go_bipush (y := mX6_runBlock) (pc := 44) dX6_runBlock_44 (by decide) ?_
            refine go_icmp_ge (y := mX6_runBlock) (pc := 46) (tgt := 59) dX6_runBlock_46 (by decide) (by omega) (by omega) (fun h46 => ?_) (fun h46 => ?_)
            · skip
              exact J59 (Or.inl (by omega))
            · skip
              refine go_aload_n (y := mX6_runBlock) (pc := 49) dX6_runBlock_49 rfl rfl ?_
              refine go_aload_n (y := mX6_runBlock) (pc := 50) dX6_runBlock_50 rfl rfl ?_
              refine go_iload (y := mX6_runBlock) (pc := 51) dX6_runBlock_51 rfl ?_
              refine go_callV2 (y := mX6_runBlock) (pc := 53) (y' := mX6_refusalOf) (kc2 := 0) (ks2 := 0) dX6_runBlock_53 ml_X6_128 ok_X6_refusalOf (show shp 4 = _ from rfl) ⟨_, _, rfl⟩ (by decide) ⟨rfl, rfl⟩ (by decide) (Nat.le_of_ble_eq_true rfl) rfl (r_refusalOf (i := a0) (by omega) (by rw [hμ y 5 a0 (by decide)]; omega) (hSx y) (by rw [su_xs]; exact hy.1) (fun v53 e53 b53 => ?_))
              rw [su_xs, hμ y 5 a0 (by decide), hμ y 6 a0 (by decide), hμ y 8 a0 (by decide)] at e53
              refine go_if_eq (y := mX6_runBlock) (pc := 56) (tgt := 67) dX6_runBlock_56 (by decide) (by omega) (fun h56 => ?_) (fun h56 => ?_)
              · skip
                have g : ¬ (40 ≤ y.2.1 ∨ rfC (su μ) y.1 (μ 5 a0) (μ 6 a0) (μ 8 a0) ≠ 0) := fun w => w.elim (fun w => by omega) (fun w => w (e53.symm.trans h56))
                have e1 : one μ (su μ) a0 y = (pfC (su μ) y.1 (μ 5 a0) (μ 6 a0) (μ 7 a0) (μ 8 a0), y.2.1 + 1, false) := if_neg g
                have hf0 : rfC (su μ) y.1 (μ 5 a0) (μ 6 a0) (μ 8 a0) = 0 := e53.symm.trans h56
                refine go_aload_n (y := mX6_runBlock) (pc := 67) dX6_runBlock_67 rfl rfl ?_
                refine go_aload_n (y := mX6_runBlock) (pc := 68) dX6_runBlock_68 rfl rfl ?_
                refine go_iload (y := mX6_runBlock) (pc := 69) dX6_runBlock_69 rfl ?_
                refine go_callV2 (y := mX6_runBlock) (pc := 71) (y' := mX6_perform) (kc2 := 0) (ks2 := 0) dX6_runBlock_71 ml_X6_132 ok_X6_perform (show shp 4 = _ from rfl) ⟨_, _, rfl⟩ (by decide) ⟨rfl, rfl⟩ (by decide) (Nat.le_of_ble_eq_true rfl) rfl (r_perform (i := a0) (by omega) (by rw [hμ y 5 a0 (by decide)]; omega) (by rw [hμ y 5 a0 (by decide), hμ y 7 a0 (by decide)]; exact hPa.2.1) (by rw [su_xs, hμ y 5 a0 (by decide), hμ y 6 a0 (by decide), hμ y 8 a0 (by decide)]; exact hf0) (hSx y) (by rw [su_xs]; exact hy.1) ?_)
                rw [su_xs, hμ y 5 a0 (by decide), hμ y 6 a0 (by decide), hμ y 7 a0 (by decide), hμ y 8 a0 (by decide)]
                refine go_aload_n (y := mX6_runBlock) (pc := 74) dX6_runBlock_74 rfl rfl ?_
                refine go_dup (y := mX6_runBlock) (pc := 75) dX6_runBlock_75 rfl ?_
                refine go_bget (y := mX6_runBlock) (pc := 76) dX6_runBlock_76 fl_X6_31 rfl rfl (by decide) (by decide) (fun r76 => ?_)
                refine go_top (b := y.2.1) ((by rw [wr_ni (by decide), wr_s])) (fun t76 => ?_)
                refine go_iconst (y := mX6_runBlock) (pc := 79) dX6_runBlock_79 ?_
                refine go_iadd (y := mX6_runBlock) (pc := 80) dX6_runBlock_80 ?_
                refine go_bput (y := mX6_runBlock) (pc := 81) dX6_runBlock_81 fp_X6_31 rfl rfl (by decide) (by decide) (by omega) ?_
                have em : put 20 (pfC (su μ) y.1 (μ 5 a0) (μ 6 a0) (μ 7 a0) (μ 8 a0)) (wr (wr (wr μ 4 6 y.2.1) 4 7 (if y.2.2 = true then 1 else 0)) 4 6 (y.2.1 + 1)) = xs (pfC (su μ) y.1 (μ 5 a0) (μ 6 a0) (μ 7 a0) (μ 8 a0), y.2.1 + 1, false) μ := by
                  rw [xs_ex, if_neg hst]
                  rfl
                refine go_mem em ?_
                rcases hw with w | ⟨w1, w | ⟨w2, w9⟩⟩
                · omega
                · rw [if_neg w.1] at hq
                  have hk := ok_one (i := a0) hS hP (by omega) hy
                  rw [e1] at hk hq
                  exact J84 _ (a0 + 1) hk w.2.1 (by omega) (by omega) w.2.2 hq
                · exact absurd w2 (by omega)
              · skip
                exact J59 (Or.inr (fun w => h56 (e53.trans w)))
          · skip
            skip
            rcases hw with w | ⟨w1, w | ⟨w2, w3, e, w4, w5, w6, w7, w8⟩⟩
            · omega
            · exact absurd (show μ 5 a0 = 8 by omega) w.1
            · skip
              refine go_aload_n (y := mX6_runBlock) (pc := 28) dX6_runBlock_28 rfl rfl ?_
              refine go_aload_n (y := mX6_runBlock) (pc := 29) dX6_runBlock_29 rfl rfl ?_
              refine go_iload (y := mX6_runBlock) (pc := 30) dX6_runBlock_30 rfl ?_
              refine go_iload (y := mX6_runBlock) (pc := 32) dX6_runBlock_32 rfl ?_
              refine go_callV3 (y := mX6_runBlock) (pc := 34) (y' := mX6_runRepeat) (kc2 := 0) (ks2 := 0) dX6_runBlock_34 ml_X6_124 ok_X6_runRepeat (show shp 4 = _ from rfl) ⟨_, _, rfl⟩ (by decide) ⟨rfl, rfl, rfl⟩ (by decide) (Nat.le_of_ble_eq_true rfl) rfl (r_runRepeat2 (x := y) (n := n) (i := a0) (e := e) (by omega) w7 w6 (by omega) hP (by omega) (hPa.2.2 w2) hS hy ?_)
              refine go_goto (y := mX6_runBlock) (pc := 37) (tgt := 84) dX6_runBlock_37 (by decide) ?_
              rw [if_pos w2, w6] at hq
              exact J84 _ e (ok_itr (fun z hz => ok_rnB hS hP n 1 (a0 + 1) e z w7 (by omega) hz) _ y hy) w6 (by omega) (by omega) w8 hq
  refine go_iload_n (y := mX6_runBlock) (pc := 0) dX6_runBlock_0 rfl rfl ?_
  refine go_istore (y := mX6_runBlock) (pc := 1) dX6_runBlock_1 (by decide) ?_
  exact loop n a x hw ha30 hx eX.symm
end CRun2
