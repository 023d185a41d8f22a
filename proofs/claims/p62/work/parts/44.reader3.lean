/-! THE READER: signs, ends, numbers -/
theorem rnn_k {f : Int → Int} {k : Int} : ∀ (n p i : Nat), p ≤ i → i < rnn f k n p → kd (f (i : Int)) = k
  | 0, p, i, h1, h2 => by rw [rnn] at h2; omega
  | n + 1, p, i, h1, h2 => by
    rw [rnn] at h2
    by_cases g : kd (f (p : Int)) = k
    · rw [if_pos g] at h2
      by_cases e : i = p
      · rw [e]; exact g
      · exact rnn_k n (p + 1) i (by omega) h2
    · rw [if_neg g] at h2
      omega
theorem tk_48 {f : Int → Int} {L b i : Nat} (h1 : b ≤ i) (h2 : i + 1 < tkE f L b) : 48 ≤ f i := by
  unfold tkE at h2
  by_cases g3 : tkK f b = 3
  · rw [if_pos g3] at h2; omega
  · rw [if_neg g3] at h2
    by_cases g : tkK f b = 1 ∨ tkK f b = 2
    · rw [if_pos g] at h2
      have h := rnn_k (f := f) (k := tkK f b) (L - b) b i h1 (by omega)
      rcases g with g | g
      · rw [g] at h
        have := kd_1.mp h
        omega
      · rw [g] at h
        have := kd_2.mp h
        omega
    · rw [if_neg g] at h2; omega
def num3 (f : Int → Int) (L : Nat) (s : Nat × Int × Int) (a m : Int) : Nat × Int × Int := gon f L (mus (mus s (tkK f s.1 = 2) 1) (a ≤ nmv f L s.1 ∧ nmv f L s.1 ≤ m) 2)
theorem mus_t {s : Nat × Int × Int} {p : Prop} [Decidable p] {i : Int} (h : p) : mus s p i = s := if_neg (fun w => w.2 h)
theorem mus_c {s : Nat × Int × Int} {p : Prop} [Decidable p] {i : Int} (h : s.2.1 ≠ 0) : mus s p i = s := if_neg (fun w => h w.1)
theorem mus_f {s : Nat × Int × Int} {p : Prop} [Decidable p] {i : Int} (h : s.2.1 = 0) (hp : ¬ p) : mus s p i = (s.1, i, (s.1 : Int)) := if_pos ⟨h, hp⟩
theorem gon_c {f : Int → Int} {L : Nat} {s : Nat × Int × Int} (h : s.2.1 ≠ 0) : gon f L s = s := if_neg h
theorem mus_e {s : Nat × Int × Int} {p q : Prop} [Decidable p] [Decidable q] {i : Int} (h : p ↔ q) : mus s p i = mus s q i := by
  unfold mus
  by_cases g : p
  · rw [if_neg (fun w => w.2 g), if_neg (fun w => w.2 (h.mp g))]
  · by_cases g2 : s.2.1 = 0
    · rw [if_pos ⟨g2, g⟩, if_pos ⟨g2, fun w => g (h.mpr w)⟩]
    · rw [if_neg (fun w => g2 w.1), if_neg (fun w => g2 w.1)]
section Reader3
variable {ρ : Nat → Int} {μ : Mem} {L : Nat} {s : Nat × Int × Int}
set_option maxRecDepth 8000 in
set_option maxHeartbeats 4000000 in
theorem t_takeSign {c : Int} (hc : rng c) (hL : μ 1 1 = L) (hT : wfT μ) (hr : rok (tx μ) L s ρ) {Q : Option Value → Mem → Prop} {X : String → Mem → Prop} (K : ∀ ρ', rok (tx μ) L (gon (tx μ) L (mus s (tkK (tx μ) s.1 = 3 ∧ tx μ (s.1 : Nat) = c) 1)) ρ' → Q none (pr ρ' μ)) : mt 276 3 0 0 mX9_takeSign [.ref 3, .int (iI c)] Q X (pr ρ μ) := by
  show go 276 3 0 0 mX9_takeSign Q X 0 [.ref 3, .int (iI c)] [] _
  refine go_aload_n (y := mX9_takeSign) (pc := 0) dX9_takeSign_0 rfl rfl ?_
  refine go_aload_n (y := mX9_takeSign) (pc := 1) dX9_takeSign_1 rfl rfl ?_
  refine go_iload_n (y := mX9_takeSign) (pc := 2) dX9_takeSign_2 rfl rfl ?_
  refine go_callV1 (y := mX9_takeSign) (pc := 3) (y' := mX9_isAtSign) (kc2 := 0) (ks2 := 0) dX9_takeSign_3 ml_X9_67 ok_X9_isAtSign (show shp 3 = _ from rfl) ⟨_, _, rfl⟩ (by decide) rfl (by decide) (Nat.le_of_ble_eq_true rfl) rfl (t_isAtSign (by omega) hL hT hr (fun v3 e3 b3 => ?_))
  refine go_if_eq (y := mX9_takeSign) (pc := 6) (tgt := 13) dX9_takeSign_6 (by decide) (by omega) (fun h6 => ?_) (fun h6 => ?_)
  · skip
    have g := bI_0 e3 h6
    rw [mus_e (q := (1 : Int) = 0) (iff_of_false g (by decide))] at K
    refine go_iconst (y := mX9_takeSign) (pc := 13) dX9_takeSign_13 ?_
    refine go_callV1 (y := mX9_takeSign) (pc := 14) (y' := mX9_take) (kc2 := 0) (ks2 := 0) dX9_takeSign_14 ml_X9_63 ok_X9_take (show shp 3 = _ from rfl) ⟨_, _, rfl⟩ (by decide) rfl (by decide) (Nat.le_of_ble_eq_true rfl) rfl (t_take (by omega) hL hT hr (fun ρ14 e14 => ?_))
    refine go_return (y := mX9_takeSign) (pc := 17) dX9_takeSign_17 rfl ?_
    exact K _ e14
  · skip
    have g := bI_1 e3 h6
    rw [mus_t g] at K
    refine go_iconst (y := mX9_takeSign) (pc := 9) dX9_takeSign_9 ?_
    refine go_goto (y := mX9_takeSign) (pc := 10) (tgt := 14) dX9_takeSign_10 (by decide) ?_
    refine go_callV1 (y := mX9_takeSign) (pc := 14) (y' := mX9_take) (kc2 := 0) (ks2 := 0) dX9_takeSign_14 ml_X9_63 ok_X9_take (show shp 3 = _ from rfl) ⟨_, _, rfl⟩ (by decide) rfl (by decide) (Nat.le_of_ble_eq_true rfl) rfl (t_take (by omega) hL hT hr (fun ρ14 e14 => ?_))
    refine go_return (y := mX9_takeSign) (pc := 17) dX9_takeSign_17 rfl ?_
    rw [mus_t rfl] at e14
    exact K _ e14
set_option maxRecDepth 8000 in
set_option maxHeartbeats 4000000 in
theorem t_number (hL : μ 1 1 = L) (hT : wfT μ) (hr : rok (tx μ) L s ρ) {Q : Option Value → Mem → Prop} {X : String → Mem → Prop} (K : ∀ v, v = nmk (tx μ) (tkE (tx μ) L s.1 - s.1) s.1 0 → -48 ≤ v ∧ v ≤ 1000 → Q (some (.int (iI v))) (pr ρ μ)) : mt 276 1 0 0 mX9_number [.ref 3] Q X (pr ρ μ) := by
  show go 276 1 0 0 mX9_number Q X 0 [.ref 3, .null, .null] [] _
  obtain ⟨h1, h2, h3, h4, h5, h6⟩ := hr
  have hL7 : L ≤ 700 := by have := hT.2.1; omega
  have tb := tkE_b (b := s.1) h6 (tx_L hL)
  have loop : ∀ (m n : Nat) (v : Int), n + m = tkE (tx μ) L s.1 → s.1 ≤ n → nmk (tx μ) m n v = nmk (tx μ) (tkE (tx μ) L s.1 - s.1) s.1 0 → (-48 ≤ v ∧ v ≤ 1000) → (n < tkE (tx μ) L s.1 → 0 ≤ v) → go 276 1 0 0 mX9_number Q X 7 [.ref 3, .int (iI v), .int (iI (n : Nat))] [] (pr ρ μ) := by
    intro m
    induction m with
    | zero =>
      intro n v hn hb hv vb v0
      refine go_iload_n (y := mX9_number) (pc := 7) dX9_number_7 rfl rfl ?_
      refine go_aload_n (y := mX9_number) (pc := 8) dX9_number_8 rfl rfl ?_
      refine go_rget (y := mX9_number) (pc := 9) dX9_number_9 fl_X9_22 rfl rfl (by decide) (fun r9 => ?_)
      refine go_top (b := ((tkE (tx μ) L s.1 : Nat) : Int)) (h3) (fun t9 => ?_)
      refine go_icmp_ge (y := mX9_number) (pc := 12) (tgt := 44) dX9_number_12 (by decide) (by omega) (by omega) (fun h12 => ?_) (fun h12 => ?_)
      · skip
        refine go_iload_n (y := mX9_number) (pc := 44) dX9_number_44 rfl rfl ?_
        refine go_ireturn (y := mX9_number) (pc := 45) dX9_number_45 rfl ?_
        exact K _ hv vb
      · skip
        exact absurd h12 (by omega)
    | succ m ih =>
      intro n v hn hb hv vb v0
      have v9 := v0 (by omega)
      refine go_iload_n (y := mX9_number) (pc := 7) dX9_number_7 rfl rfl ?_
      refine go_aload_n (y := mX9_number) (pc := 8) dX9_number_8 rfl rfl ?_
      refine go_rget (y := mX9_number) (pc := 9) dX9_number_9 fl_X9_22 rfl rfl (by decide) (fun r9 => ?_)
      refine go_top (b := ((tkE (tx μ) L s.1 : Nat) : Int)) (h3) (fun t9 => ?_)
      refine go_icmp_ge (y := mX9_number) (pc := 12) (tgt := 44) dX9_number_12 (by decide) (by omega) (by omega) (fun h12 => ?_) (fun h12 => ?_)
      · skip
        exact absurd h12 (by omega)
      · skip
        refine go_iload_n (y := mX9_number) (pc := 15) dX9_number_15 rfl rfl ?_
        refine go_bipush (y := mX9_number) (pc := 16) dX9_number_16 (by decide) ?_
        refine go_imul (y := mX9_number) (pc := 18) dX9_number_18 ?_
        refine go_aload_n (y := mX9_number) (pc := 19) dX9_number_19 rfl rfl ?_
        refine go_getR (y := mX9_number) (pc := 20) dX9_number_20 fl_X9_9 rfl rfl (by decide) ?_
        refine go_iload_n (y := mX9_number) (pc := 23) dX9_number_23 rfl rfl ?_
        refine go_callV1 (y := mX9_number) (pc := 24) (y' := mX8_at) (kc2 := 0) (ks2 := 0) dX9_number_24 ml_X9_36 ok_X8_at (show shp 1 = _ from rfl) ⟨_, _, rfl⟩ (by decide) rfl (by decide) (Nat.le_of_ble_eq_true rfl) rfl (t_at (by omega) (wfT_pr hT) (fun v24 e24 b24 => ?_))
        rw [tx_pr] at e24
        refine go_iadd (y := mX9_number) (pc := 27) dX9_number_27 ?_
        refine go_bipush (y := mX9_number) (pc := 28) dX9_number_28 (by decide) ?_
        refine go_isub (y := mX9_number) (pc := 30) dX9_number_30 ?_
        refine go_sipush (y := mX9_number) (pc := 31) dX9_number_31 (by decide) ?_
        refine go_mmin (y := mX9_number) (pc := 34) dX9_number_34 ml_X9_77 (by decide) (Nat.le_of_ble_eq_true rfl) (by omega) (by omega) ?_
        refine go_istore_n (y := mX9_number) (pc := 37) dX9_number_37 rfl (by decide) ?_
        refine go_iinc (y := mX9_number) (pc := 38) dX9_number_38 rfl (by decide) ?_
        refine go_goto (y := mX9_number) (pc := 41) (tgt := 7) dX9_number_41 (by decide) ?_
        have e9 : min (v * 10 + v24 - 48) 1000 = min 1000 (10 * v + tx μ (n : Nat) - 48) := by rw [← e24]; omega
        refine ih (n + 1) _ (by omega) (by omega) ?_ (by omega) (fun h => ?_)
        · rw [e9, ← hv, nmk]
        · have := tk_48 hb (by omega)
          omega
  refine go_iconst (y := mX9_number) (pc := 0) dX9_number_0 ?_
  refine go_istore_n (y := mX9_number) (pc := 1) dX9_number_1 rfl (by decide) ?_
  refine go_aload_n (y := mX9_number) (pc := 2) dX9_number_2 rfl rfl ?_
  refine go_rget (y := mX9_number) (pc := 3) dX9_number_3 fl_X9_28 rfl rfl (by decide) (fun r3 => ?_)
  refine go_top (b := ((s.1 : Nat) : Int)) (h2) (fun t3 => ?_)
  refine go_istore_n (y := mX9_number) (pc := 6) dX9_number_6 rfl (by decide) ?_
  exact loop (tkE (tx μ) L s.1 - s.1) s.1 0 (by omega) (by omega) rfl (by decide) (fun _ => by decide)
set_option maxRecDepth 8000 in
set_option maxHeartbeats 4000000 in
theorem t_takeNumber {a m : Int} (ha : 0 ≤ a ∧ a ≤ 1000) (hm : 0 ≤ m ∧ m ≤ 1000) (hL : μ 1 1 = L) (hT : wfT μ) (hr : rok (tx μ) L s ρ) {Q : Option Value → Mem → Prop} {X : String → Mem → Prop} (K : ∀ ρ' v, rok (tx μ) L (num3 (tx μ) L s a m) ρ' → ((num3 (tx μ) L s a m).2.1 = 0 → v = nmv (tx μ) L s.1 ∧ a ≤ v ∧ v ≤ m) → ((num3 (tx μ) L s a m).2.1 ≠ 0 → v = a) → Q (some (.int (iI v))) (pr ρ' μ)) : mt 276 3 0 0 mX9_takeNumber [.ref 3, .int (iI a), .int (iI m)] Q X (pr ρ μ) := by
  show go 276 3 0 0 mX9_takeNumber Q X 0 [.ref 3, .int (iI a), .int (iI m), .null] [] _
  have hr' := hr
  obtain ⟨h1, h2, h3, h4, h5, h6⟩ := hr
  have kb : 0 ≤ tkK (tx μ) s.1 ∧ tkK (tx μ) s.1 ≤ 4 := kd_b _
  obtain ⟨N, eN⟩ : ∃ N, N = num3 (tx μ) L s a m := ⟨_, rfl⟩
  rw [← eN] at K
  have J44 : ∀ (ρ' : Nat → Int) (v : Int), rok (tx μ) L N ρ' → (N.2.1 = 0 → v = nmv (tx μ) L s.1 ∧ a ≤ v ∧ v ≤ m) → go 276 3 0 0 mX9_takeNumber Q X 44 [.ref 3, .int (iI a), .int (iI m), .int (iI v)] [] (pr ρ' μ) := by
    intro ρ' v hn hv
    refine go_aload_n (y := mX9_takeNumber) (pc := 44) dX9_takeNumber_44 rfl rfl ?_
    refine go_callV0 (y := mX9_takeNumber) (pc := 45) (y' := mX9_isFine) (kc2 := 0) (ks2 := 0) dX9_takeNumber_45 ml_X9_55 ok_X9_isFine (show shp 3 = _ from rfl) ⟨_, _, rfl⟩ (by decide) trivial (by decide) (Nat.le_of_ble_eq_true rfl) rfl (t_isFine hn (fun v45 e45 b45 => ?_))
    refine go_if_eq (y := mX9_takeNumber) (pc := 48) (tgt := 55) dX9_takeNumber_48 (by decide) (by omega) (fun h48 => ?_) (fun h48 => ?_)
    · skip
      have g := bI_0 e45 h48
      refine go_iload_n (y := mX9_takeNumber) (pc := 55) dX9_takeNumber_55 rfl rfl ?_
      refine go_ireturn (y := mX9_takeNumber) (pc := 56) dX9_takeNumber_56 rfl ?_
      exact K _ a hn (fun w => absurd w g) (fun _ => rfl)
    · skip
      have g := bI_1 e45 h48
      refine go_iload_n (y := mX9_takeNumber) (pc := 51) dX9_takeNumber_51 rfl rfl ?_
      refine go_goto (y := mX9_takeNumber) (pc := 52) (tgt := 56) dX9_takeNumber_52 (by decide) ?_
      refine go_ireturn (y := mX9_takeNumber) (pc := 56) dX9_takeNumber_56 rfl ?_
      exact K _ v hn hv (fun w => absurd g w)
  refine go_aload_n (y := mX9_takeNumber) (pc := 0) dX9_takeNumber_0 rfl rfl ?_
  refine go_callV0 (y := mX9_takeNumber) (pc := 1) (y' := mX9_number) (kc2 := 0) (ks2 := 0) dX9_takeNumber_1 ml_X9_74 ok_X9_number (show shp 3 = _ from rfl) ⟨_, _, rfl⟩ (by decide) trivial (by decide) (Nat.le_of_ble_eq_true rfl) rfl (t_number hL hT hr' (fun v1 e1 b1 => ?_))
  refine go_istore_n (y := mX9_takeNumber) (pc := 4) dX9_takeNumber_4 rfl (by decide) ?_
  refine go_aload_n (y := mX9_takeNumber) (pc := 5) dX9_takeNumber_5 rfl rfl ?_
  refine go_rget (y := mX9_takeNumber) (pc := 6) dX9_takeNumber_6 fl_X9_43 rfl rfl (by decide) (fun r6 => ?_)
  refine go_top (b := tkK (tx μ) s.1) (h1) (fun t6 => ?_)
  refine go_iconst (y := mX9_takeNumber) (pc := 9) dX9_takeNumber_9 ?_
  refine go_icmp_eq (y := mX9_takeNumber) (pc := 10) (tgt := 21) dX9_takeNumber_10 (by decide) (by omega) (by omega) (fun h10 => ?_) (fun h10 => ?_)
  · skip
    have ev : v1 = nmv (tx μ) L s.1 := by
      rw [e1]
      unfold nmv tkE
      rw [if_neg (by omega), if_pos (Or.inr h10), h10]
    have ek : num3 (tx μ) L s a m = gon (tx μ) L (mus s (a ≤ nmv (tx μ) L s.1 ∧ nmv (tx μ) L s.1 ≤ m) 2) := by
      unfold num3
      rw [mus_t h10]
    rw [ek, ← ev] at eN
    have J31 : ¬ (a ≤ v1 ∧ v1 ≤ m) → go 276 3 0 0 mX9_takeNumber Q X 31 [.ref 3, .int (iI a), .int (iI m), .int (iI v1)] [] (pr ρ μ) := by
      intro g
      refine go_aload_n (y := mX9_takeNumber) (pc := 31) dX9_takeNumber_31 rfl rfl ?_
      refine go_iconst (y := mX9_takeNumber) (pc := 32) dX9_takeNumber_32 ?_
      refine go_callV1 (y := mX9_takeNumber) (pc := 33) (y' := mX9_take) (kc2 := 0) (ks2 := 0) dX9_takeNumber_33 ml_X9_63 ok_X9_take (show shp 3 = _ from rfl) ⟨_, _, rfl⟩ (by decide) rfl (by decide) (Nat.le_of_ble_eq_true rfl) rfl (t_take (by omega) hL hT hr' (fun ρ33 e33 => ?_))
      refine go_goto (y := mX9_takeNumber) (pc := 36) (tgt := 44) dX9_takeNumber_36 (by decide) ?_
      rw [mus_e (q := a ≤ v1 ∧ v1 ≤ m) (iff_of_false (by decide) g), ← eN] at e33
      refine J44 _ v1 e33 (fun w => ?_)
      exfalso
      rw [eN] at w
      by_cases gc : s.2.1 = 0
      · rw [mus_f gc g] at w
        rw [gon_c (s := (s.1, 2, (s.1 : Int))) (show (2 : Int) ≠ 0 by decide)] at w
        exact absurd w (show (2 : Int) ≠ 0 by decide)
      · rw [mus_c gc] at w
        rw [gon_c gc] at w
        exact gc w
    refine go_iload_n (y := mX9_takeNumber) (pc := 21) dX9_takeNumber_21 rfl rfl ?_
    refine go_iload_n (y := mX9_takeNumber) (pc := 22) dX9_takeNumber_22 rfl rfl ?_
    refine go_icmp_lt (y := mX9_takeNumber) (pc := 23) (tgt := 31) dX9_takeNumber_23 (by decide) (by omega) (by omega) (fun h23 => ?_) (fun h23 => ?_)
    · skip
      exact J31 (by omega)
    · skip
      refine go_iload_n (y := mX9_takeNumber) (pc := 26) dX9_takeNumber_26 rfl rfl ?_
      refine go_iload_n (y := mX9_takeNumber) (pc := 27) dX9_takeNumber_27 rfl rfl ?_
      refine go_icmp_le (y := mX9_takeNumber) (pc := 28) (tgt := 39) dX9_takeNumber_28 (by decide) (by omega) (by omega) (fun h28 => ?_) (fun h28 => ?_)
      · skip
        refine go_aload_n (y := mX9_takeNumber) (pc := 39) dX9_takeNumber_39 rfl rfl ?_
        refine go_iconst (y := mX9_takeNumber) (pc := 40) dX9_takeNumber_40 ?_
        refine go_callV1 (y := mX9_takeNumber) (pc := 41) (y' := mX9_take) (kc2 := 0) (ks2 := 0) dX9_takeNumber_41 ml_X9_63 ok_X9_take (show shp 3 = _ from rfl) ⟨_, _, rfl⟩ (by decide) rfl (by decide) (Nat.le_of_ble_eq_true rfl) rfl (t_take (by omega) hL hT hr' (fun ρ41 e41 => ?_))
        rw [mus_t rfl] at e41
        have g : a ≤ v1 ∧ v1 ≤ m := ⟨by omega, by omega⟩
        rw [mus_t g] at eN
        rw [← eN] at e41
        exact J44 _ v1 e41 (fun _ => ⟨ev, g⟩)
      · skip
        exact J31 (by omega)
  · skip
    have ek : num3 (tx μ) L s a m = gon (tx μ) L (mus s ((1 : Int) = 0) 1) := by
      unfold num3
      rw [mus_e (p := tkK (tx μ) s.1 = 2) (q := (1 : Int) = 0) (iff_of_false h10 (by decide))]
      by_cases gc : s.2.1 = 0
      · rw [mus_f gc (show ¬ (1 : Int) = 0 by decide), mus_c (s := (s.1, 1, (s.1 : Int))) (show (1 : Int) ≠ 0 by decide)]
      · rw [mus_c gc, mus_c gc]
    rw [ek] at eN
    refine go_aload_n (y := mX9_takeNumber) (pc := 13) dX9_takeNumber_13 rfl rfl ?_
    refine go_iconst (y := mX9_takeNumber) (pc := 14) dX9_takeNumber_14 ?_
    refine go_callV1 (y := mX9_takeNumber) (pc := 15) (y' := mX9_take) (kc2 := 0) (ks2 := 0) dX9_takeNumber_15 ml_X9_63 ok_X9_take (show shp 3 = _ from rfl) ⟨_, _, rfl⟩ (by decide) rfl (by decide) (Nat.le_of_ble_eq_true rfl) rfl (t_take (by omega) hL hT hr' (fun ρ15 e15 => ?_))
    refine go_goto (y := mX9_takeNumber) (pc := 18) (tgt := 44) dX9_takeNumber_18 (by decide) ?_
    rw [← eN] at e15
    refine J44 _ v1 e15 (fun w => ?_)
    exfalso
    rw [eN] at w
    by_cases gc : s.2.1 = 0
    · rw [mus_f gc (by decide)] at w
      rw [gon_c (s := (s.1, 1, (s.1 : Int))) (show (1 : Int) ≠ 0 by decide)] at w
      exact absurd w (show (1 : Int) ≠ 0 by decide)
    · rw [mus_c gc] at w
      rw [gon_c gc] at w
      exact gc w
set_option maxRecDepth 8000 in
set_option maxHeartbeats 4000000 in
theorem t_errorAsName (hL : μ 1 1 = L) (hT : wfT μ) (hr : rok (tx μ) L s ρ) {Q : Option Value → Mem → Prop} {X : String → Mem → Prop} (K : ∀ v, v = (if tkK (tx μ) s.1 ≠ 1 then 1 else if 6 < tkE (tx μ) L s.1 - s.1 then 2 else 0) → 0 ≤ v ∧ v ≤ 2 → Q (some (.int (iI v))) (pr ρ μ)) : mt 276 0 0 0 mX9_errorAsName [.ref 3] Q X (pr ρ μ) := by
  show go 276 0 0 0 mX9_errorAsName Q X 0 [.ref 3] [] _
  obtain ⟨h1, h2, h3, h4, h5, h6⟩ := hr
  have hL7 : L ≤ 700 := by have := hT.2.1; omega
  have tb := tkE_b (b := s.1) h6 (tx_L hL)
  have kb : 0 ≤ tkK (tx μ) s.1 ∧ tkK (tx μ) s.1 ≤ 4 := kd_b _
  refine go_aload_n (y := mX9_errorAsName) (pc := 0) dX9_errorAsName_0 rfl rfl ?_
  refine go_rget (y := mX9_errorAsName) (pc := 1) dX9_errorAsName_1 fl_X9_43 rfl rfl (by decide) (fun r1 => ?_)
  refine go_top (b := tkK (tx μ) s.1) (h1) (fun t1 => ?_)
  refine go_iconst (y := mX9_errorAsName) (pc := 4) dX9_errorAsName_4 ?_
  refine go_icmp_eq (y := mX9_errorAsName) (pc := 5) (tgt := 10) dX9_errorAsName_5 (by decide) (by omega) (by omega) (fun h5' => ?_) (fun h5' => ?_)
  · skip
    refine go_aload_n (y := mX9_errorAsName) (pc := 10) dX9_errorAsName_10 rfl rfl ?_
    refine go_rget (y := mX9_errorAsName) (pc := 11) dX9_errorAsName_11 fl_X9_22 rfl rfl (by decide) (fun r11 => ?_)
    refine go_top (b := ((tkE (tx μ) L s.1 : Nat) : Int)) (h3) (fun t11 => ?_)
    refine go_aload_n (y := mX9_errorAsName) (pc := 14) dX9_errorAsName_14 rfl rfl ?_
    refine go_rget (y := mX9_errorAsName) (pc := 15) dX9_errorAsName_15 fl_X9_28 rfl rfl (by decide) (fun r15 => ?_)
    refine go_top (b := ((s.1 : Nat) : Int)) (h2) (fun t15 => ?_)
    refine go_isub (y := mX9_errorAsName) (pc := 18) dX9_errorAsName_18 ?_
    refine go_bipush (y := mX9_errorAsName) (pc := 19) dX9_errorAsName_19 (by decide) ?_
    refine go_icmp_le (y := mX9_errorAsName) (pc := 21) (tgt := 28) dX9_errorAsName_21 (by decide) (by omega) (by omega) (fun h21 => ?_) (fun h21 => ?_)
    · skip
      refine go_iconst (y := mX9_errorAsName) (pc := 28) dX9_errorAsName_28 ?_
      refine go_ireturn (y := mX9_errorAsName) (pc := 29) dX9_errorAsName_29 rfl ?_
      exact K 0 (by rw [if_neg (fun w => w h5'), if_neg (by omega)]) (by decide)
    · skip
      refine go_iconst (y := mX9_errorAsName) (pc := 24) dX9_errorAsName_24 ?_
      refine go_goto (y := mX9_errorAsName) (pc := 25) (tgt := 29) dX9_errorAsName_25 (by decide) ?_
      refine go_ireturn (y := mX9_errorAsName) (pc := 29) dX9_errorAsName_29 rfl ?_
      exact K 2 (by rw [if_neg (fun w => w h5'), if_pos (by omega)]) (by decide)
  · skip
    refine go_iconst (y := mX9_errorAsName) (pc := 8) dX9_errorAsName_8 ?_
    refine go_ireturn (y := mX9_errorAsName) (pc := 9) dX9_errorAsName_9 rfl ?_
    exact K 1 (by rw [if_pos h5']) (by decide)
end Reader3
