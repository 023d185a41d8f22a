/-! THE READER -/
theorem wv_wv {ν : Nat → Int} {k : Nat} {a b : Int} : wv (wv ν k a) k b = wv ν k b := by
  funext j
  unfold wv
  by_cases h : j = k
  · rw [if_pos h, if_pos h]
  · rw [if_neg h, if_neg h, if_neg h]
theorem tx_pr {ρ : Nat → Int} {μ : Mem} : tx (pr ρ μ) = tx μ := by
  funext i
  unfold tx
  rw [pr_o (by decide), pr_o (by decide)]
theorem wfT_pr {ρ : Nat → Int} {μ : Mem} (h : wfT μ) : wfT (pr ρ μ) := by
  obtain ⟨t0, t7, tb⟩ := h
  exact ⟨by rw [pr_o (by decide)]; exact t0, by rw [pr_o (by decide)]; exact t7, fun k hk => by rw [pr_o (by decide)]; exact tb k hk⟩
/-- behind the blanks from p on; behind the run of kind k from p on -/
def skp (f : Int → Int) : Nat → Nat → Nat
  | 0, p => p
  | n + 1, p => if kd (f (p : Int)) = 4 then skp f n (p + 1) else p
def rnn (f : Int → Int) (k : Int) : Nat → Nat → Nat
  | 0, p => p
  | n + 1, p => if kd (f (p : Int)) = k then rnn f k n (p + 1) else p
def tkB (f : Int → Int) (L e : Nat) : Nat := skp f (L - e) e
def tkK (f : Int → Int) (b : Nat) : Int := kd (f (b : Int))
def tkE (f : Int → Int) (L b : Nat) : Nat := if tkK f b = 3 then b + 1 else if tkK f b = 1 ∨ tkK f b = 2 then rnn f (tkK f b) (L - b) b else b
theorem skp_b {f : Int → Int} : ∀ n p, p ≤ skp f n p ∧ skp f n p ≤ p + n
  | 0, p => by simp [skp]
  | n + 1, p => by
    have h := skp_b (f := f) n (p + 1)
    rw [skp]
    split <;> omega
theorem rnn_b {f : Int → Int} {k : Int} : ∀ n p, p ≤ rnn f k n p ∧ rnn f k n p ≤ p + n
  | 0, p => by simp [rnn]
  | n + 1, p => by
    have h := rnn_b (f := f) (k := k) n (p + 1)
    rw [rnn]
    split <;> omega
set_option maxRecDepth 8000 in
set_option maxHeartbeats 4000000 in
theorem t_step {ρ : Nat → Int} {μ : Mem} {e L : Nat} (he : ρ 3 = e) (hL : μ 1 1 = L) (hT : wfT μ) (heL : e ≤ L) {Q : Option Value → Mem → Prop} {X : String → Mem → Prop} (K : Q none (pr (wv (wv (wv ρ 2 (tkB (tx μ) L e : Nat)) 1 (tkK (tx μ) (tkB (tx μ) L e))) 3 (tkE (tx μ) L (tkB (tx μ) L e) : Nat)) μ)) : mt 276 1 0 0 mX9_step [.ref 3] Q X (pr ρ μ) := by
  show go 276 1 0 0 mX9_step Q X 0 [.ref 3, .null] [] _
  have hL7 : L ≤ 700 := by have := hT.2.1; omega
  have hT' : ∀ ρ, wfT (pr ρ μ) := fun ρ => wfT_pr hT
  obtain ⟨B, eB⟩ : ∃ B, B = tkB (tx μ) L e := ⟨_, rfl⟩
  rw [← eB] at K
  have hBL : B ≤ L := by have := skp_b (f := tx μ) (L - e) e; unfold tkB at eB; omega
  obtain ⟨k, ek⟩ : ∃ k, k = tkK (tx μ) B := ⟨_, rfl⟩
  have ek' : tkK (tx μ) B = kd (tx μ B) := rfl
  unfold tkE at K
  rw [← ek] at K
  have loop2 : ∀ (m n : Nat), n + m = L → (k = 1 ∨ k = 2) → rnn (tx μ) k m n = rnn (tx μ) k (L - B) B → go 276 1 0 0 mX9_step Q X 118 [.ref 3, .int (iI 1)] [] (pr (wv (wv (wv ρ 2 (B : Nat)) 1 k) 3 (n : Nat)) μ) := by
    intro m
    induction m with
    | zero =>
      intro n hn hk hN
      rw [if_neg (by omega), if_pos hk, ← hN] at K
      refine go_iload_n (y := mX9_step) (pc := 118) dX9_step_118 rfl rfl ?_
      refine go_if_eq (y := mX9_step) (pc := 119) (tgt := 170) dX9_step_119 (by decide) (by omega) (fun h119 => ?_) (fun h119 => ?_)
      · skip
        exact absurd h119 (by decide)
      · skip
        refine go_aload_n (y := mX9_step) (pc := 122) dX9_step_122 rfl rfl ?_
        refine go_rget (y := mX9_step) (pc := 123) dX9_step_123 fl_X9_22 rfl rfl (by decide) (fun r123 => ?_)
        refine go_top (b := ((n : Nat) : Int)) (wv_s) (fun t123 => ?_)
        refine go_aload_n (y := mX9_step) (pc := 126) dX9_step_126 rfl rfl ?_
        refine go_getR (y := mX9_step) (pc := 127) dX9_step_127 fl_X9_9 rfl rfl (by decide) ?_
        refine go_tget (y := mX9_step) (pc := 130) dX9_step_130 fl_X9_31 rfl rfl (by decide) (by decide) (fun r130 => ?_)
        refine go_top (b := ((L : Nat) : Int)) (hL) (fun t130 => ?_)
        refine go_icmp_ge (y := mX9_step) (pc := 133) (tgt := 170) dX9_step_133 (by decide) (by omega) (by omega) (fun h133 => ?_) (fun h133 => ?_)
        · skip
          refine go_return (y := mX9_step) (pc := 170) dX9_step_170 rfl ?_
          exact K
        · skip
          exact absurd h133 (by omega)
    | succ m ih =>
      intro n hn hk hN
      refine go_iload_n (y := mX9_step) (pc := 118) dX9_step_118 rfl rfl ?_
      refine go_if_eq (y := mX9_step) (pc := 119) (tgt := 170) dX9_step_119 (by decide) (by omega) (fun h119 => ?_) (fun h119 => ?_)
      · skip
        exact absurd h119 (by decide)
      · skip
        refine go_aload_n (y := mX9_step) (pc := 122) dX9_step_122 rfl rfl ?_
        refine go_rget (y := mX9_step) (pc := 123) dX9_step_123 fl_X9_22 rfl rfl (by decide) (fun r123 => ?_)
        refine go_top (b := ((n : Nat) : Int)) (wv_s) (fun t123 => ?_)
        refine go_aload_n (y := mX9_step) (pc := 126) dX9_step_126 rfl rfl ?_
        refine go_getR (y := mX9_step) (pc := 127) dX9_step_127 fl_X9_9 rfl rfl (by decide) ?_
        refine go_tget (y := mX9_step) (pc := 130) dX9_step_130 fl_X9_31 rfl rfl (by decide) (by decide) (fun r130 => ?_)
        refine go_top (b := ((L : Nat) : Int)) (hL) (fun t130 => ?_)
        refine go_icmp_ge (y := mX9_step) (pc := 133) (tgt := 170) dX9_step_133 (by decide) (by omega) (by omega) (fun h133 => ?_) (fun h133 => ?_)
        · skip
          exact absurd h133 (by omega)
        · skip
          refine go_aload_n (y := mX9_step) (pc := 136) dX9_step_136 rfl rfl ?_
          refine go_getR (y := mX9_step) (pc := 137) dX9_step_137 fl_X9_9 rfl rfl (by decide) ?_
          refine go_aload_n (y := mX9_step) (pc := 140) dX9_step_140 rfl rfl ?_
          refine go_rget (y := mX9_step) (pc := 141) dX9_step_141 fl_X9_22 rfl rfl (by decide) (fun r141 => ?_)
          refine go_top (b := ((n : Nat) : Int)) (wv_s) (fun t141 => ?_)
          refine go_callV1 (y := mX9_step) (pc := 144) (y' := mX8_at) (kc2 := 0) (ks2 := 0) dX9_step_144 ml_X9_36 ok_X8_at (show shp 1 = _ from rfl) ⟨_, _, rfl⟩ (by decide) rfl (by decide) (Nat.le_of_ble_eq_true rfl) rfl (t_at (by omega) (hT' _) (fun v144 e144 b144 => ?_))
          rw [tx_pr] at e144
          refine go_callS1 (y := mX9_step) (pc := 147) (y' := mX9_kindOf) (kc2 := 0) (ks2 := 0) dX9_step_147 ml_X9_40 ok_X9_kindOf rfl (by decide) (Nat.le_of_ble_eq_true rfl) rfl (t_kindOf (by omega) (fun v147 e147 b147 => ?_))
          refine go_aload_n (y := mX9_step) (pc := 150) dX9_step_150 rfl rfl ?_
          refine go_rget (y := mX9_step) (pc := 151) dX9_step_151 fl_X9_43 rfl rfl (by decide) (fun r151 => ?_)
          refine go_top (b := k) (((wv_n (by decide)).trans wv_s)) (fun t151 => ?_)
          refine go_icmp_ne (y := mX9_step) (pc := 154) (tgt := 170) dX9_step_154 (by decide) (by omega) (by omega) (fun h154 => ?_) (fun h154 => ?_)
          · skip
            refine go_return (y := mX9_step) (pc := 170) dX9_step_170 rfl ?_
            rw [rnn, if_neg (by rw [← e144, ← e147]; exact h154)] at hN
            rw [if_neg (by omega), if_pos hk, ← hN] at K
            exact K
          · skip
            refine go_aload_n (y := mX9_step) (pc := 157) dX9_step_157 rfl rfl ?_
            refine go_dup (y := mX9_step) (pc := 158) dX9_step_158 rfl ?_
            refine go_rget (y := mX9_step) (pc := 159) dX9_step_159 fl_X9_22 rfl rfl (by decide) (fun r159 => ?_)
            refine go_top (b := ((n : Nat) : Int)) (wv_s) (fun t159 => ?_)
            refine go_iconst (y := mX9_step) (pc := 162) dX9_step_162 ?_
            refine go_iadd (y := mX9_step) (pc := 163) dX9_step_163 ?_
            refine go_rput (y := mX9_step) (pc := 164) dX9_step_164 fp_X9_22 rfl rfl (by decide) (by omega) ?_
            refine go_goto (y := mX9_step) (pc := 167) (tgt := 118) dX9_step_167 (by decide) ?_
            rw [wv_wv]
            rw [rnn, if_pos (by rw [← e144, ← e147]; exact h154)] at hN
            exact ih (n + 1) (by omega) hk hN
  have J118 : ∀ (n : Nat), ¬ (k = 1 ∨ k = 2) → n = (if k = 3 then B + 1 else B) → go 276 1 0 0 mX9_step Q X 118 [.ref 3, .int (iI 0)] [] (pr (wv (wv (wv ρ 2 (B : Nat)) 1 k) 3 (n : Nat)) μ) := by
    intro n hk hn
    rw [if_neg hk, ← hn] at K
    refine go_iload_n (y := mX9_step) (pc := 118) dX9_step_118 rfl rfl ?_
    refine go_if_eq (y := mX9_step) (pc := 119) (tgt := 170) dX9_step_119 (by decide) (by omega) (fun h119 => ?_) (fun h119 => ?_)
    · skip
      refine go_return (y := mX9_step) (pc := 170) dX9_step_170 rfl ?_
      exact K
    · skip
      exact absurd rfl h119
  have J96 : ∀ (n : Nat), n ≤ 701 → n = (if k = 3 then B + 1 else B) → (0 ≤ k ∧ k ≤ 4) → go 276 1 0 0 mX9_step Q X 96 [.ref 3, .null] [] (pr (wv (wv (wv ρ 2 (B : Nat)) 1 k) 3 (n : Nat)) μ) := by
    intro n hn hn2 kb
    have L2 : (k = 1 ∨ k = 2) → n = B := fun h => by rw [hn2, if_neg (by omega)]
    refine go_aload_n (y := mX9_step) (pc := 96) dX9_step_96 rfl rfl ?_
    refine go_rget (y := mX9_step) (pc := 97) dX9_step_97 fl_X9_43 rfl rfl (by decide) (fun r97 => ?_)
    refine go_top (b := k) (((wv_n (by decide)).trans ((wv_s)))) (fun t97 => ?_)
    refine go_iconst (y := mX9_step) (pc := 100) dX9_step_100 ?_
    refine go_icmp_eq (y := mX9_step) (pc := 101) (tgt := 112) dX9_step_101 (by decide) (by omega) (by omega) (fun h101 => ?_) (fun h101 => ?_)
    · skip
      refine go_iconst (y := mX9_step) (pc := 112) dX9_step_112 ?_
      refine go_goto (y := mX9_step) (pc := 113) (tgt := 117) dX9_step_113 (by decide) ?_
      refine go_istore_n (y := mX9_step) (pc := 117) dX9_step_117 rfl (by decide) ?_
      exact loop2 (L - n) n (by have := L2 (by omega); omega) (by omega) (by rw [L2 (by omega)])
    · skip
      refine go_aload_n (y := mX9_step) (pc := 104) dX9_step_104 rfl rfl ?_
      refine go_rget (y := mX9_step) (pc := 105) dX9_step_105 fl_X9_43 rfl rfl (by decide) (fun r105 => ?_)
      refine go_top (b := k) (((wv_n (by decide)).trans ((wv_s)))) (fun t105 => ?_)
      refine go_iconst (y := mX9_step) (pc := 108) dX9_step_108 ?_
      refine go_icmp_ne (y := mX9_step) (pc := 109) (tgt := 116) dX9_step_109 (by decide) (by omega) (by omega) (fun h109 => ?_) (fun h109 => ?_)
      · skip
        refine go_iconst (y := mX9_step) (pc := 116) dX9_step_116 ?_
        refine go_istore_n (y := mX9_step) (pc := 117) dX9_step_117 rfl (by decide) ?_
        exact J118 n (by omega) hn2
      · skip
        refine go_iconst (y := mX9_step) (pc := 112) dX9_step_112 ?_
        refine go_goto (y := mX9_step) (pc := 113) (tgt := 117) dX9_step_113 (by decide) ?_
        refine go_istore_n (y := mX9_step) (pc := 117) dX9_step_117 rfl (by decide) ?_
        exact loop2 (L - n) n (by have := L2 (by omega); omega) (by omega) (by rw [L2 (by omega)])
  have J53 : go 276 1 0 0 mX9_step Q X 53 [.ref 3, .null] [] (pr (wv ρ 2 (B : Nat)) μ) := by
    refine go_aload_n (y := mX9_step) (pc := 53) dX9_step_53 rfl rfl ?_
    refine go_aload_n (y := mX9_step) (pc := 54) dX9_step_54 rfl rfl ?_
    refine go_getR (y := mX9_step) (pc := 55) dX9_step_55 fl_X9_9 rfl rfl (by decide) ?_
    refine go_aload_n (y := mX9_step) (pc := 58) dX9_step_58 rfl rfl ?_
    refine go_rget (y := mX9_step) (pc := 59) dX9_step_59 fl_X9_28 rfl rfl (by decide) (fun r59 => ?_)
    refine go_top (b := ((B : Nat) : Int)) (wv_s) (fun t59 => ?_)
    refine go_callV1 (y := mX9_step) (pc := 62) (y' := mX8_at) (kc2 := 0) (ks2 := 0) dX9_step_62 ml_X9_36 ok_X8_at (show shp 1 = _ from rfl) ⟨_, _, rfl⟩ (by decide) rfl (by decide) (Nat.le_of_ble_eq_true rfl) rfl (t_at (by omega) (hT' _) (fun v62 e62 b62 => ?_))
    refine go_callS1 (y := mX9_step) (pc := 65) (y' := mX9_kindOf) (kc2 := 0) (ks2 := 0) dX9_step_65 ml_X9_40 ok_X9_kindOf rfl (by decide) (Nat.le_of_ble_eq_true rfl) rfl (t_kindOf (by omega) (fun v65 e65 b65 => ?_))
    rw [e62, tx_pr, ← ek', ← ek] at e65
    refine go_rput (y := mX9_step) (pc := 68) dX9_step_68 fp_X9_43 rfl rfl (by decide) (by omega) ?_
    refine go_aload_n (y := mX9_step) (pc := 71) dX9_step_71 rfl rfl ?_
    refine go_aload_n (y := mX9_step) (pc := 72) dX9_step_72 rfl rfl ?_
    refine go_rget (y := mX9_step) (pc := 73) dX9_step_73 fl_X9_43 rfl rfl (by decide) (fun r73 => ?_)
    refine go_top (b := v65) (wv_s) (fun t73 => ?_)
    refine go_iconst (y := mX9_step) (pc := 76) dX9_step_76 ?_
    refine go_icmp_ne (y := mX9_step) (pc := 77) (tgt := 89) dX9_step_77 (by decide) (by omega) (by omega) (fun h77 => ?_) (fun h77 => ?_)
    · skip
      refine go_aload_n (y := mX9_step) (pc := 89) dX9_step_89 rfl rfl ?_
      refine go_rget (y := mX9_step) (pc := 90) dX9_step_90 fl_X9_28 rfl rfl (by decide) (fun r90 => ?_)
      refine go_top (b := ((B : Nat) : Int)) (((wv_n (by decide)).trans wv_s)) (fun t90 => ?_)
      refine go_rput (y := mX9_step) (pc := 93) dX9_step_93 fp_X9_22 rfl rfl (by decide) (by omega) ?_
      rw [e65]
      exact J96 B (by omega) (by rw [if_neg (by omega)]) (by omega)
    · skip
      refine go_aload_n (y := mX9_step) (pc := 80) dX9_step_80 rfl rfl ?_
      refine go_rget (y := mX9_step) (pc := 81) dX9_step_81 fl_X9_28 rfl rfl (by decide) (fun r81 => ?_)
      refine go_top (b := ((B : Nat) : Int)) (((wv_n (by decide)).trans wv_s)) (fun t81 => ?_)
      refine go_iconst (y := mX9_step) (pc := 84) dX9_step_84 ?_
      refine go_iadd (y := mX9_step) (pc := 85) dX9_step_85 ?_
      refine go_goto (y := mX9_step) (pc := 86) (tgt := 93) dX9_step_86 (by decide) ?_
      refine go_rput (y := mX9_step) (pc := 93) dX9_step_93 fp_X9_22 rfl rfl (by decide) (by omega) ?_
      rw [e65]
      exact J96 (B + 1) (by omega) (by rw [if_pos (by omega)]) (by omega)
  have loop1 : ∀ (n b : Nat), b + n = L → skp (tx μ) n b = B → go 276 1 0 0 mX9_step Q X 8 [.ref 3, .null] [] (pr (wv ρ 2 (b : Nat)) μ) := by
    intro n
    induction n with
    | zero =>
      intro b hb hB
      rw [skp] at hB
      subst hB
      refine go_aload_n (y := mX9_step) (pc := 8) dX9_step_8 rfl rfl ?_
      refine go_rget (y := mX9_step) (pc := 9) dX9_step_9 fl_X9_28 rfl rfl (by decide) (fun r9 => ?_)
      refine go_top (b := ((b : Nat) : Int)) (wv_s) (fun t9 => ?_)
      refine go_aload_n (y := mX9_step) (pc := 12) dX9_step_12 rfl rfl ?_
      refine go_getR (y := mX9_step) (pc := 13) dX9_step_13 fl_X9_9 rfl rfl (by decide) ?_
      refine go_tget (y := mX9_step) (pc := 16) dX9_step_16 fl_X9_31 rfl rfl (by decide) (by decide) (fun r16 => ?_)
      refine go_top (b := ((L : Nat) : Int)) (hL) (fun t16 => ?_)
      refine go_icmp_ge (y := mX9_step) (pc := 19) (tgt := 53) dX9_step_19 (by decide) (by omega) (by omega) (fun h19 => ?_) (fun h19 => ?_)
      · skip
        exact J53
      · skip
        exact absurd h19 (by omega)
    | succ n ih =>
      intro b hb hB
      refine go_aload_n (y := mX9_step) (pc := 8) dX9_step_8 rfl rfl ?_
      refine go_rget (y := mX9_step) (pc := 9) dX9_step_9 fl_X9_28 rfl rfl (by decide) (fun r9 => ?_)
      refine go_top (b := ((b : Nat) : Int)) (wv_s) (fun t9 => ?_)
      refine go_aload_n (y := mX9_step) (pc := 12) dX9_step_12 rfl rfl ?_
      refine go_getR (y := mX9_step) (pc := 13) dX9_step_13 fl_X9_9 rfl rfl (by decide) ?_
      refine go_tget (y := mX9_step) (pc := 16) dX9_step_16 fl_X9_31 rfl rfl (by decide) (by decide) (fun r16 => ?_)
      refine go_top (b := ((L : Nat) : Int)) (hL) (fun t16 => ?_)
      refine go_icmp_ge (y := mX9_step) (pc := 19) (tgt := 53) dX9_step_19 (by decide) (by omega) (by omega) (fun h19 => ?_) (fun h19 => ?_)
      · skip
        exact absurd h19 (by omega)
      · skip
        refine go_aload_n (y := mX9_step) (pc := 22) dX9_step_22 rfl rfl ?_
        refine go_getR (y := mX9_step) (pc := 23) dX9_step_23 fl_X9_9 rfl rfl (by decide) ?_
        refine go_aload_n (y := mX9_step) (pc := 26) dX9_step_26 rfl rfl ?_
        refine go_rget (y := mX9_step) (pc := 27) dX9_step_27 fl_X9_28 rfl rfl (by decide) (fun r27 => ?_)
        refine go_top (b := ((b : Nat) : Int)) (wv_s) (fun t27 => ?_)
        refine go_callV1 (y := mX9_step) (pc := 30) (y' := mX8_at) (kc2 := 0) (ks2 := 0) dX9_step_30 ml_X9_36 ok_X8_at (show shp 1 = _ from rfl) ⟨_, _, rfl⟩ (by decide) rfl (by decide) (Nat.le_of_ble_eq_true rfl) rfl (t_at (by omega) (hT' _) (fun v30 e30 b30 => ?_))
        rw [tx_pr] at e30
        refine go_callS1 (y := mX9_step) (pc := 33) (y' := mX9_kindOf) (kc2 := 0) (ks2 := 0) dX9_step_33 ml_X9_40 ok_X9_kindOf rfl (by decide) (Nat.le_of_ble_eq_true rfl) rfl (t_kindOf (by omega) (fun v33 e33 b33 => ?_))
        refine go_iconst (y := mX9_step) (pc := 36) dX9_step_36 ?_
        refine go_icmp_ne (y := mX9_step) (pc := 37) (tgt := 53) dX9_step_37 (by decide) (by omega) (by omega) (fun h37 => ?_) (fun h37 => ?_)
        · skip
          rw [skp, if_neg (by rw [← e30, ← e33]; exact h37)] at hB
          subst hB
          exact J53
        · skip
          refine go_aload_n (y := mX9_step) (pc := 40) dX9_step_40 rfl rfl ?_
          refine go_dup (y := mX9_step) (pc := 41) dX9_step_41 rfl ?_
          refine go_rget (y := mX9_step) (pc := 42) dX9_step_42 fl_X9_28 rfl rfl (by decide) (fun r42 => ?_)
          refine go_top (b := ((b : Nat) : Int)) (wv_s) (fun t42 => ?_)
          refine go_iconst (y := mX9_step) (pc := 45) dX9_step_45 ?_
          refine go_iadd (y := mX9_step) (pc := 46) dX9_step_46 ?_
          refine go_rput (y := mX9_step) (pc := 47) dX9_step_47 fp_X9_28 rfl rfl (by decide) (by omega) ?_
          refine go_goto (y := mX9_step) (pc := 50) (tgt := 8) dX9_step_50 (by decide) ?_
          rw [wv_wv]
          rw [skp, if_pos (by rw [← e30, ← e33]; exact h37)] at hB
          exact ih (b + 1) (by omega) hB
  refine go_aload_n (y := mX9_step) (pc := 0) dX9_step_0 rfl rfl ?_
  refine go_aload_n (y := mX9_step) (pc := 1) dX9_step_1 rfl rfl ?_
  refine go_rget (y := mX9_step) (pc := 2) dX9_step_2 fl_X9_22 rfl rfl (by decide) (fun r2 => ?_)
  refine go_top (b := ((e : Nat) : Int)) (he) (fun t2 => ?_)
  refine go_rput (y := mX9_step) (pc := 5) dX9_step_5 fp_X9_28 rfl rfl (by decide) (by omega) ?_
  exact loop1 (L - e) e (by omega) eB.symm
