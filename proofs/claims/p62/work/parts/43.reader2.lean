/-! THE READER: what stands at it, and how it goes on. A state: where the token begins, the error's code, its place -/
def nxt (f : Int → Int) (L b : Nat) : Nat := tkB f L (tkE f L b)
def mus (s : Nat × Int × Int) (p : Prop) [Decidable p] (its : Int) : Nat × Int × Int := if s.2.1 = 0 ∧ ¬ p then (s.1, its, (s.1 : Int)) else s
def gon (f : Int → Int) (L : Nat) (s : Nat × Int × Int) : Nat × Int × Int := if s.2.1 = 0 then (nxt f L s.1, 0, s.2.2) else s
def rok (f : Int → Int) (L : Nat) (s : Nat × Int × Int) (ρ : Nat → Int) : Prop := ρ 1 = tkK f s.1 ∧ ρ 2 = (s.1 : Int) ∧ ρ 3 = (tkE f L s.1 : Nat) ∧ ρ 4 = s.2.1 ∧ ρ 5 = s.2.2 ∧ s.1 ≤ L
theorem tx_L {μ : Mem} {L : Nat} (hL : μ 1 1 = L) : tx μ (L : Nat) = 0 := by
  unfold tx
  rw [if_neg (by omega)]
theorem tkE_b {f : Int → Int} {L b : Nat} (hb : b ≤ L) (h0 : f (L : Nat) = 0) : b ≤ tkE f L b ∧ tkE f L b ≤ L := by
  unfold tkE
  by_cases h3 : tkK f b = 3
  · rw [if_pos h3]
    have : b ≠ L := by
      intro w
      unfold tkK at h3
      rw [w, h0] at h3
      exact absurd h3 (by decide)
    omega
  · rw [if_neg h3]
    split
    · have := rnn_b (f := f) (k := tkK f b) (L - b) b
      omega
    · omega
theorem tkB_b {f : Int → Int} {L e : Nat} (he : e ≤ L) : e ≤ tkB f L e ∧ tkB f L e ≤ L := by
  have := skp_b (f := f) (L - e) e
  unfold tkB
  omega
theorem rok_step {f : Int → Int} {L e : Nat} {ρ : Nat → Int} {c p : Int} (h4 : ρ 4 = c) (h5 : ρ 5 = p) (he : e ≤ L) : rok f L (tkB f L e, c, p) (wv (wv (wv ρ 2 (tkB f L e : Nat)) 1 (tkK f (tkB f L e))) 3 (tkE f L (tkB f L e) : Nat)) := by
  refine ⟨?_, ?_, ?_, ?_, ?_, (tkB_b he).2⟩
  · rw [wv_n (by decide), wv_s]
  · rw [wv_n (by decide), wv_n (by decide), wv_s]
  · rw [wv_s]
  · rw [wv_n (by decide), wv_n (by decide), wv_n (by decide)]
    exact h4
  · rw [wv_n (by decide), wv_n (by decide), wv_n (by decide)]
    exact h5
section Reader2
variable {ρ : Nat → Int} {μ : Mem} {L : Nat} {s : Nat × Int × Int}
set_option maxRecDepth 8000 in
set_option maxHeartbeats 4000000 in
theorem t_start (hL : μ 1 1 = L) (hT : wfT μ) {Q : Option Value → Mem → Prop} {X : String → Mem → Prop} (K : ∀ ρ', rok (tx μ) L (tkB (tx μ) L 0, 0, -1) ρ' → Q none (pr ρ' μ)) : mt 276 2 0 0 mX9_start [.ref 3] Q X (pr ρ μ) := by
  show go 276 2 0 0 mX9_start Q X 0 [.ref 3] [] _
  refine go_aload_n (y := mX9_start) (pc := 0) dX9_start_0 rfl rfl ?_
  refine go_iconst (y := mX9_start) (pc := 1) dX9_start_1 ?_
  refine go_rput (y := mX9_start) (pc := 2) dX9_start_2 fp_X9_15 rfl rfl (by decide) (by omega) ?_
  refine go_aload_n (y := mX9_start) (pc := 5) dX9_start_5 rfl rfl ?_
  refine go_iconst (y := mX9_start) (pc := 6) dX9_start_6 ?_
  refine go_rput (y := mX9_start) (pc := 7) dX9_start_7 fp_X9_19 rfl rfl (by decide) (by omega) ?_
  refine go_aload_n (y := mX9_start) (pc := 10) dX9_start_10 rfl rfl ?_
  refine go_iconst (y := mX9_start) (pc := 11) dX9_start_11 ?_
  refine go_rput (y := mX9_start) (pc := 12) dX9_start_12 fp_X9_22 rfl rfl (by decide) (by omega) ?_
  refine go_aload_n (y := mX9_start) (pc := 15) dX9_start_15 rfl rfl ?_
  refine go_callV0 (y := mX9_start) (pc := 16) (y' := mX9_step) (kc2 := 0) (ks2 := 0) dX9_start_16 ml_X9_25 ok_X9_step (show shp 3 = _ from rfl) ⟨_, _, rfl⟩ (by decide) trivial (by decide) (Nat.le_of_ble_eq_true rfl) rfl (t_step (e := 0) wv_s hL hT (by omega) ?_)
  refine go_return (y := mX9_start) (pc := 19) dX9_start_19 rfl ?_
  exact K _ (rok_step (by rw [wv_n (by decide), wv_n (by decide), wv_s]) (by rw [wv_n (by decide), wv_s]) (by omega))
set_option maxRecDepth 8000 in
set_option maxHeartbeats 4000000 in
theorem t_isFine (hr : rok (tx μ) L s ρ) {Q : Option Value → Mem → Prop} {X : String → Mem → Prop} (K : ∀ v, v = bI (s.2.1 = 0) → v = 0 ∨ v = 1 → Q (some (.int (iI v))) (pr ρ μ)) : mt 276 0 0 0 mX9_isFine [.ref 3] Q X (pr ρ μ) := by
  show go 276 0 0 0 mX9_isFine Q X 0 [.ref 3] [] _
  obtain ⟨h1, h2, h3, h4, h5, h6⟩ := hr
  refine go_aload_n (y := mX9_isFine) (pc := 0) dX9_isFine_0 rfl rfl ?_
  refine go_rget (y := mX9_isFine) (pc := 1) dX9_isFine_1 fl_X9_15 rfl rfl (by decide) (fun r1 => ?_)
  refine go_top (b := s.2.1) (h4) (fun t1 => ?_)
  refine go_if_ne (y := mX9_isFine) (pc := 4) (tgt := 11) dX9_isFine_4 (by decide) (by omega) (fun h4 => ?_) (fun h4 => ?_)
  · skip
    refine go_iconst (y := mX9_isFine) (pc := 11) dX9_isFine_11 ?_
    refine go_zreturn (y := mX9_isFine) (pc := 12) dX9_isFine_12 rfl (by omega) ?_
    exact K 0 (bI_f (by omega)).symm (by omega)
  · skip
    refine go_iconst (y := mX9_isFine) (pc := 7) dX9_isFine_7 ?_
    refine go_goto (y := mX9_isFine) (pc := 8) (tgt := 12) dX9_isFine_8 (by decide) ?_
    refine go_zreturn (y := mX9_isFine) (pc := 12) dX9_isFine_12 rfl (by omega) ?_
    exact K 1 (bI_t (by omega)).symm (by omega)
set_option maxRecDepth 8000 in
set_option maxHeartbeats 4000000 in
theorem t_isAtEnd (hr : rok (tx μ) L s ρ) {Q : Option Value → Mem → Prop} {X : String → Mem → Prop} (K : ∀ v, v = bI (tkK (tx μ) s.1 = 0) → v = 0 ∨ v = 1 → Q (some (.int (iI v))) (pr ρ μ)) : mt 276 0 0 0 mX9_isAtEnd [.ref 3] Q X (pr ρ μ) := by
  show go 276 0 0 0 mX9_isAtEnd Q X 0 [.ref 3] [] _
  obtain ⟨h1, h2, h3, h4, h5, h6⟩ := hr
  have kb : 0 ≤ tkK (tx μ) s.1 ∧ tkK (tx μ) s.1 ≤ 4 := kd_b _
  refine go_aload_n (y := mX9_isAtEnd) (pc := 0) dX9_isAtEnd_0 rfl rfl ?_
  refine go_rget (y := mX9_isAtEnd) (pc := 1) dX9_isAtEnd_1 fl_X9_43 rfl rfl (by decide) (fun r1 => ?_)
  refine go_top (b := tkK (tx μ) s.1) (h1) (fun t1 => ?_)
  refine go_if_ne (y := mX9_isAtEnd) (pc := 4) (tgt := 11) dX9_isAtEnd_4 (by decide) (by omega) (fun h4 => ?_) (fun h4 => ?_)
  · skip
    refine go_iconst (y := mX9_isAtEnd) (pc := 11) dX9_isAtEnd_11 ?_
    refine go_zreturn (y := mX9_isAtEnd) (pc := 12) dX9_isAtEnd_12 rfl (by omega) ?_
    exact K 0 (bI_f (by omega)).symm (by omega)
  · skip
    refine go_iconst (y := mX9_isAtEnd) (pc := 7) dX9_isAtEnd_7 ?_
    refine go_goto (y := mX9_isAtEnd) (pc := 8) (tgt := 12) dX9_isAtEnd_8 (by decide) ?_
    refine go_zreturn (y := mX9_isAtEnd) (pc := 12) dX9_isAtEnd_12 rfl (by omega) ?_
    exact K 1 (bI_t (by omega)).symm (by omega)
set_option maxRecDepth 8000 in
set_option maxHeartbeats 4000000 in
theorem t_isAtSign {c : Int} (hc : rng c) (hL : μ 1 1 = L) (hT : wfT μ) (hr : rok (tx μ) L s ρ) {Q : Option Value → Mem → Prop} {X : String → Mem → Prop} (K : ∀ v, v = bI (tkK (tx μ) s.1 = 3 ∧ tx μ (s.1 : Nat) = c) → v = 0 ∨ v = 1 → Q (some (.int (iI v))) (pr ρ μ)) : mt 276 1 0 0 mX9_isAtSign [.ref 3, .int (iI c)] Q X (pr ρ μ) := by
  show go 276 1 0 0 mX9_isAtSign Q X 0 [.ref 3, .int (iI c)] [] _
  obtain ⟨h1, h2, h3, h4, h5, h6⟩ := hr
  have hL7 : L ≤ 700 := by have := hT.2.1; omega
  have kb : 0 ≤ tkK (tx μ) s.1 ∧ tkK (tx μ) s.1 ≤ 4 := kd_b _
  refine go_aload_n (y := mX9_isAtSign) (pc := 0) dX9_isAtSign_0 rfl rfl ?_
  refine go_rget (y := mX9_isAtSign) (pc := 1) dX9_isAtSign_1 fl_X9_43 rfl rfl (by decide) (fun r1 => ?_)
  refine go_top (b := tkK (tx μ) s.1) (h1) (fun t1 => ?_)
  refine go_iconst (y := mX9_isAtSign) (pc := 4) dX9_isAtSign_4 ?_
  refine go_icmp_ne (y := mX9_isAtSign) (pc := 5) (tgt := 27) dX9_isAtSign_5 (by decide) (by omega) (by omega) (fun h5 => ?_) (fun h5 => ?_)
  · skip
    refine go_iconst (y := mX9_isAtSign) (pc := 27) dX9_isAtSign_27 ?_
    refine go_zreturn (y := mX9_isAtSign) (pc := 28) dX9_isAtSign_28 rfl (by omega) ?_
    exact K 0 (bI_f (by omega)).symm (by omega)
  · skip
    refine go_aload_n (y := mX9_isAtSign) (pc := 8) dX9_isAtSign_8 rfl rfl ?_
    refine go_getR (y := mX9_isAtSign) (pc := 9) dX9_isAtSign_9 fl_X9_9 rfl rfl (by decide) ?_
    refine go_aload_n (y := mX9_isAtSign) (pc := 12) dX9_isAtSign_12 rfl rfl ?_
    refine go_rget (y := mX9_isAtSign) (pc := 13) dX9_isAtSign_13 fl_X9_28 rfl rfl (by decide) (fun r13 => ?_)
    refine go_top (b := ((s.1 : Nat) : Int)) (h2) (fun t13 => ?_)
    refine go_callV1 (y := mX9_isAtSign) (pc := 16) (y' := mX8_at) (kc2 := 0) (ks2 := 0) dX9_isAtSign_16 ml_X9_36 ok_X8_at (show shp 1 = _ from rfl) ⟨_, _, rfl⟩ (by decide) rfl (by decide) (Nat.le_of_ble_eq_true rfl) rfl (t_at (by omega) (wfT_pr hT) (fun v16 e16 b16 => ?_))
    rw [tx_pr] at e16
    refine go_iload_n (y := mX9_isAtSign) (pc := 19) dX9_isAtSign_19 rfl rfl ?_
    refine go_icmp_ne (y := mX9_isAtSign) (pc := 20) (tgt := 27) dX9_isAtSign_20 (by decide) (by omega) (by omega) (fun h20 => ?_) (fun h20 => ?_)
    · skip
      refine go_iconst (y := mX9_isAtSign) (pc := 27) dX9_isAtSign_27 ?_
      refine go_zreturn (y := mX9_isAtSign) (pc := 28) dX9_isAtSign_28 rfl (by omega) ?_
      exact K 0 (bI_f (by omega)).symm (by omega)
    · skip
      refine go_iconst (y := mX9_isAtSign) (pc := 23) dX9_isAtSign_23 ?_
      refine go_goto (y := mX9_isAtSign) (pc := 24) (tgt := 28) dX9_isAtSign_24 (by decide) ?_
      refine go_zreturn (y := mX9_isAtSign) (pc := 28) dX9_isAtSign_28 rfl (by omega) ?_
      exact K 1 (bI_t (by omega)).symm (by omega)
set_option maxRecDepth 8000 in
set_option maxHeartbeats 4000000 in
theorem t_take {err : Int} (he : rng err) (hL : μ 1 1 = L) (hT : wfT μ) (hr : rok (tx μ) L s ρ) {Q : Option Value → Mem → Prop} {X : String → Mem → Prop} (K : ∀ ρ', rok (tx μ) L (gon (tx μ) L (mus s (err = 0) err)) ρ' → Q none (pr ρ' μ)) : mt 276 2 0 0 mX9_take [.ref 3, .int (iI err)] Q X (pr ρ μ) := by
  show go 276 2 0 0 mX9_take Q X 0 [.ref 3, .int (iI err)] [] _
  have hr' := hr
  obtain ⟨h1, h2, h3, h4, h5, h6⟩ := hr
  have hL7 : L ≤ 700 := by have := hT.2.1; omega
  have tb := tkE_b (b := s.1) h6 (tx_L hL)
  refine go_aload_n (y := mX9_take) (pc := 0) dX9_take_0 rfl rfl ?_
  refine go_callV0 (y := mX9_take) (pc := 1) (y' := mX9_isFine) (kc2 := 0) (ks2 := 0) dX9_take_1 ml_X9_55 ok_X9_isFine (show shp 3 = _ from rfl) ⟨_, _, rfl⟩ (by decide) trivial (by decide) (Nat.le_of_ble_eq_true rfl) rfl (t_isFine hr' (fun v1 e1 b1 => ?_))
  refine go_if_ne (y := mX9_take) (pc := 4) (tgt := 8) dX9_take_4 (by decide) (by omega) (fun h4' => ?_) (fun h4' => ?_)
  · skip
    have g := bI_1 e1 h4'
    refine go_iload_n (y := mX9_take) (pc := 8) dX9_take_8 rfl rfl ?_
    refine go_if_ne (y := mX9_take) (pc := 9) (tgt := 19) dX9_take_9 (by decide) (by omega) (fun h9 => ?_) (fun h9 => ?_)
    · skip
      have hm : gon (tx μ) L (mus s (err = 0) err) = (s.1, err, (s.1 : Int)) := by
        unfold mus
        rw [if_pos ⟨g, h9⟩]
        unfold gon
        exact if_neg h9
      rw [hm] at K
      refine go_aload_n (y := mX9_take) (pc := 19) dX9_take_19 rfl rfl ?_
      refine go_iload_n (y := mX9_take) (pc := 20) dX9_take_20 rfl rfl ?_
      refine go_rput (y := mX9_take) (pc := 21) dX9_take_21 fp_X9_15 rfl rfl (by decide) (by omega) ?_
      refine go_aload_n (y := mX9_take) (pc := 24) dX9_take_24 rfl rfl ?_
      refine go_aload_n (y := mX9_take) (pc := 25) dX9_take_25 rfl rfl ?_
      refine go_rget (y := mX9_take) (pc := 26) dX9_take_26 fl_X9_28 rfl rfl (by decide) (fun r26 => ?_)
      refine go_top (b := ((s.1 : Nat) : Int)) (((wv_n (by decide)).trans h2)) (fun t26 => ?_)
      refine go_rput (y := mX9_take) (pc := 29) dX9_take_29 fp_X9_19 rfl rfl (by decide) (by omega) ?_
      refine go_return (y := mX9_take) (pc := 32) dX9_take_32 rfl ?_
      exact K _ ⟨by rw [wv_n (by decide), wv_n (by decide)]; exact h1, by rw [wv_n (by decide), wv_n (by decide)]; exact h2, by rw [wv_n (by decide), wv_n (by decide)]; exact h3, by rw [wv_n (by decide), wv_s], by rw [wv_s], h6⟩
    · skip
      have hm : gon (tx μ) L (mus s (err = 0) err) = (nxt (tx μ) L s.1, 0, s.2.2) := by
        unfold mus
        rw [if_neg (fun w => w.2 h9)]
        unfold gon
        exact if_pos g
      rw [hm] at K
      refine go_aload_n (y := mX9_take) (pc := 12) dX9_take_12 rfl rfl ?_
      refine go_callV0 (y := mX9_take) (pc := 13) (y' := mX9_step) (kc2 := 0) (ks2 := 0) dX9_take_13 ml_X9_25 ok_X9_step (show shp 3 = _ from rfl) ⟨_, _, rfl⟩ (by decide) trivial (by decide) (Nat.le_of_ble_eq_true rfl) rfl (t_step (e := tkE (tx μ) L s.1) h3 hL hT tb.2 ?_)
      refine go_goto (y := mX9_take) (pc := 16) (tgt := 32) dX9_take_16 (by decide) ?_
      refine go_return (y := mX9_take) (pc := 32) dX9_take_32 rfl ?_
      exact K _ (rok_step (h4.trans g) h5 tb.2)
  · skip
    have g := bI_0 e1 h4'
    have hm : gon (tx μ) L (mus s (err = 0) err) = s := by
      unfold mus
      rw [if_neg (fun w => g w.1)]
      unfold gon
      exact if_neg g
    rw [hm] at K
    refine go_return (y := mX9_take) (pc := 7) dX9_take_7 rfl ?_
    exact K _ hr'
end Reader2
