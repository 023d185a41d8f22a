/-! WORDS: the text w stands at b -/
def eqw (f : Int → Int) (w : String) (b : Nat) : Nat → Bool
  | 0 => true
  | n + 1 => eqw f w b n && decide (f ((b + n : Nat) : Int) = chz w n)
theorem eqw_at {f : Int → Int} {w : String} {b k : Nat} : ∀ {n : Nat}, eqw f w b n = true → k < n → f ((b + k : Nat) : Int) = chz w k
  | 0, _, hk => by omega
  | n + 1, h, hk => by
    rw [eqw, Bool.and_eq_true] at h
    by_cases e : k = n
    · subst e
      exact of_decide_eq_true h.2
    · exact eqw_at h.1 (by omega)
theorem eqw_s {f : Int → Int} {w : String} {b n : Nat} (h : eqw f w b n = true) (h1 : f ((b + n : Nat) : Int) = chz w n) : eqw f w b (n + 1) = true := by
  rw [eqw, h, decide_eq_true h1]
  rfl
abbrev atw (f : Int → Int) (L b : Nat) (w : String) : Prop := tkK f b = 1 ∧ tkE f L b - b = w.length ∧ eqw f w b w.length = true
section Words
variable {ρ : Nat → Int} {μ : Mem} {L : Nat} {s : Nat × Int × Int} {q : String × Nat × String}
set_option maxRecDepth 8000 in
set_option maxHeartbeats 4000000 in
theorem t_isWord {k : Nat} (hi : sc_l[k]? = some q) (hL : μ 1 1 = L) (hT : wfT μ) (hr : rok (tx μ) L s ρ) {Q : Option Value → Mem → Prop} {X : String → Mem → Prop} (K : ∀ v, v = bI (atw (tx μ) L s.1 q.2.2) → v = 0 ∨ v = 1 → Q (some (.int (iI v))) (pr ρ μ)) : mt 276 4 0 0 mX9_isAtWord_ [.ref 3, .ref (7000 + k)] Q X (pr ρ μ) := by
  show go 276 4 0 0 mX9_isAtWord_ Q X 0 [.ref 3, .ref (7000 + k), .null] [] _
  have hr' := hr
  obtain ⟨h1, h2, h3, h4, h5, h6⟩ := hr
  have hL7 : L ≤ 700 := by have := hT.2.1; omega
  have tb := tkE_b (b := s.1) h6 (tx_L hL)
  have kb : 0 ≤ tkK (tx μ) s.1 ∧ tkK (tx μ) s.1 ≤ 4 := kd_b _
  have hq := sc_bd hi
  have loop : tkK (tx μ) s.1 = 1 → tkE (tx μ) L s.1 - s.1 = q.2.2.length → ∀ (m n : Nat), n + m = q.2.2.length → eqw (tx μ) q.2.2 s.1 n = true → go 276 4 0 0 mX9_isAtWord_ Q X 28 [.ref 3, .ref (7000 + k), .int (iI (n : Nat))] [] (pr ρ μ) := by
    intro g1 g2 m
    induction m with
    | zero =>
      intro n hn he
      refine go_iload_n (y := mX9_isAtWord_) (pc := 28) dX9_isAtWord__28 rfl rfl ?_
      refine go_aload_n (y := mX9_isAtWord_) (pc := 29) dX9_isAtWord__29 rfl rfl ?_
      refine go_callK (y := mX9_isAtWord_) (pc := 30) (y' := mJ0_length_8abf5) (as := []) (z' := 276) (d' := 1) (kc' := 0) (ks' := 0) (kc2 := 0) (ks2 := 0) dX9_isAtWord__30 rfl ml_X9_46 ok_J0_length_8abf5 hi rfl rfl (by decide) (by intro v hv; cases hv) (Nat.le_of_ble_eq_true rfl) (Nat.le_refl _) (by decide) (by decide) (by decide) rfl (k_length hi ?_)
      refine go_icmp_ge (y := mX9_isAtWord_) (pc := 33) (tgt := 65) dX9_isAtWord__33 (by decide) (by omega) (by omega) (fun h33 => ?_) (fun h33 => ?_)
      · skip
        refine go_iconst (y := mX9_isAtWord_) (pc := 65) dX9_isAtWord__65 ?_
        refine go_zreturn (y := mX9_isAtWord_) (pc := 66) dX9_isAtWord__66 rfl (by omega) ?_
        exact K 1 (bI_t ⟨g1, g2, (show n = q.2.2.length by omega) ▸ he⟩).symm (by omega)
      · skip
        exact absurd h33 (by omega)
    | succ m ih =>
      intro n hn he
      have hc := chz_b hi (j := n) (by omega)
      refine go_iload_n (y := mX9_isAtWord_) (pc := 28) dX9_isAtWord__28 rfl rfl ?_
      refine go_aload_n (y := mX9_isAtWord_) (pc := 29) dX9_isAtWord__29 rfl rfl ?_
      refine go_callK (y := mX9_isAtWord_) (pc := 30) (y' := mJ0_length_8abf5) (as := []) (z' := 276) (d' := 1) (kc' := 0) (ks' := 0) (kc2 := 0) (ks2 := 0) dX9_isAtWord__30 rfl ml_X9_46 ok_J0_length_8abf5 hi rfl rfl (by decide) (by intro v hv; cases hv) (Nat.le_of_ble_eq_true rfl) (Nat.le_refl _) (by decide) (by decide) (by decide) rfl (k_length hi ?_)
      refine go_icmp_ge (y := mX9_isAtWord_) (pc := 33) (tgt := 65) dX9_isAtWord__33 (by decide) (by omega) (by omega) (fun h33 => ?_) (fun h33 => ?_)
      · skip
        exact absurd h33 (by omega)
      · skip
        refine go_aload_n (y := mX9_isAtWord_) (pc := 36) dX9_isAtWord__36 rfl rfl ?_
        refine go_getR (y := mX9_isAtWord_) (pc := 37) dX9_isAtWord__37 fl_X9_9 rfl rfl (by decide) ?_
        refine go_aload_n (y := mX9_isAtWord_) (pc := 40) dX9_isAtWord__40 rfl rfl ?_
        refine go_rget (y := mX9_isAtWord_) (pc := 41) dX9_isAtWord__41 fl_X9_28 rfl rfl (by decide) (fun r41 => ?_)
        refine go_top (b := ((s.1 : Nat) : Int)) (h2) (fun t41 => ?_)
        refine go_iload_n (y := mX9_isAtWord_) (pc := 44) dX9_isAtWord__44 rfl rfl ?_
        refine go_iadd (y := mX9_isAtWord_) (pc := 45) dX9_isAtWord__45 ?_
        refine go_callV1 (y := mX9_isAtWord_) (pc := 46) (y' := mX8_at) (kc2 := 0) (ks2 := 0) dX9_isAtWord__46 ml_X9_36 ok_X8_at (show shp 1 = _ from rfl) ⟨_, _, rfl⟩ (by decide) rfl (by decide) (Nat.le_of_ble_eq_true rfl) rfl (t_at (by omega) (wfT_pr hT) (fun v46 e46 b46 => ?_))
        rw [tx_pr] at e46
        refine go_aload_n (y := mX9_isAtWord_) (pc := 49) dX9_isAtWord__49 rfl rfl ?_
        refine go_iload_n (y := mX9_isAtWord_) (pc := 50) dX9_isAtWord__50 rfl rfl ?_
        refine go_callK (y := mX9_isAtWord_) (pc := 51) (y' := mJ0_charAt_5068e) (as := [.int (iI (n : Nat))]) (z' := 276) (d' := 3) (kc' := 0) (ks' := 0) (kc2 := 0) (ks2 := 0) dX9_isAtWord__51 rfl ml_X9_51 ok_J0_charAt_5068e hi rfl rfl (by decide) (by intro v hv; rw [List.mem_singleton.mp hv]; rfl) (Nat.le_of_ble_eq_true rfl) (Nat.le_refl _) (by decide) (by decide) (by decide) rfl (k_charAt hi (by omega) ?_)
        refine go_icmp_eq (y := mX9_isAtWord_) (pc := 54) (tgt := 59) dX9_isAtWord__54 (by decide) (by omega) (by omega) (fun h54 => ?_) (fun h54 => ?_)
        · skip
          refine go_iinc (y := mX9_isAtWord_) (pc := 59) dX9_isAtWord__59 rfl (by decide) ?_
          refine go_goto (y := mX9_isAtWord_) (pc := 62) (tgt := 28) dX9_isAtWord__62 (by decide) ?_
          exact ih (n + 1) (by omega) (eqw_s he (e46.symm.trans h54))
        · skip
          refine go_iconst (y := mX9_isAtWord_) (pc := 57) dX9_isAtWord__57 ?_
          refine go_zreturn (y := mX9_isAtWord_) (pc := 58) dX9_isAtWord__58 rfl (by omega) ?_
          exact K 0 (bI_f (fun w => h54 (e46.trans (eqw_at w.2.2 (by omega))))).symm (by omega)
  refine go_aload_n (y := mX9_isAtWord_) (pc := 0) dX9_isAtWord__0 rfl rfl ?_
  refine go_rget (y := mX9_isAtWord_) (pc := 1) dX9_isAtWord__1 fl_X9_43 rfl rfl (by decide) (fun r1 => ?_)
  refine go_top (b := tkK (tx μ) s.1) (h1) (fun t1 => ?_)
  refine go_iconst (y := mX9_isAtWord_) (pc := 4) dX9_isAtWord__4 ?_
  refine go_icmp_ne (y := mX9_isAtWord_) (pc := 5) (tgt := 24) dX9_isAtWord__5 (by decide) (by omega) (by omega) (fun h5' => ?_) (fun h5' => ?_)
  · skip
    refine go_iconst (y := mX9_isAtWord_) (pc := 24) dX9_isAtWord__24 ?_
    refine go_zreturn (y := mX9_isAtWord_) (pc := 25) dX9_isAtWord__25 rfl (by omega) ?_
    exact K 0 (bI_f (fun w => h5' w.1)).symm (by omega)
  · skip
    refine go_aload_n (y := mX9_isAtWord_) (pc := 8) dX9_isAtWord__8 rfl rfl ?_
    refine go_rget (y := mX9_isAtWord_) (pc := 9) dX9_isAtWord__9 fl_X9_22 rfl rfl (by decide) (fun r9 => ?_)
    refine go_top (b := ((tkE (tx μ) L s.1 : Nat) : Int)) (h3) (fun t9 => ?_)
    refine go_aload_n (y := mX9_isAtWord_) (pc := 12) dX9_isAtWord__12 rfl rfl ?_
    refine go_rget (y := mX9_isAtWord_) (pc := 13) dX9_isAtWord__13 fl_X9_28 rfl rfl (by decide) (fun r13 => ?_)
    refine go_top (b := ((s.1 : Nat) : Int)) (h2) (fun t13 => ?_)
    refine go_isub (y := mX9_isAtWord_) (pc := 16) dX9_isAtWord__16 ?_
    refine go_aload_n (y := mX9_isAtWord_) (pc := 17) dX9_isAtWord__17 rfl rfl ?_
    refine go_callK (y := mX9_isAtWord_) (pc := 18) (y' := mJ0_length_8abf5) (as := []) (z' := 276) (d' := 1) (kc' := 0) (ks' := 0) (kc2 := 0) (ks2 := 0) dX9_isAtWord__18 rfl ml_X9_46 ok_J0_length_8abf5 hi rfl rfl (by decide) (by intro v hv; cases hv) (Nat.le_of_ble_eq_true rfl) (Nat.le_refl _) (by decide) (by decide) (by decide) rfl (k_length hi ?_)
    refine go_icmp_eq (y := mX9_isAtWord_) (pc := 21) (tgt := 26) dX9_isAtWord__21 (by decide) (by omega) (by omega) (fun h21 => ?_) (fun h21 => ?_)
    · skip
      refine go_iconst (y := mX9_isAtWord_) (pc := 26) dX9_isAtWord__26 ?_
      refine go_istore_n (y := mX9_isAtWord_) (pc := 27) dX9_isAtWord__27 rfl (by decide) ?_
      exact loop h5' (by omega) q.2.2.length 0 (by omega) rfl
    · skip
      refine go_iconst (y := mX9_isAtWord_) (pc := 24) dX9_isAtWord__24 ?_
      refine go_zreturn (y := mX9_isAtWord_) (pc := 25) dX9_isAtWord__25 rfl (by omega) ?_
      exact K 0 (bI_f (fun w => h21 (by have := w.2.1; omega))).symm (by omega)
set_option maxRecDepth 8000 in
set_option maxHeartbeats 4000000 in
theorem t_takeWord {k : Nat} (hi : sc_l[k]? = some q) (hL : μ 1 1 = L) (hT : wfT μ) (hr : rok (tx μ) L s ρ) {Q : Option Value → Mem → Prop} {X : String → Mem → Prop} (K : ∀ ρ', rok (tx μ) L (gon (tx μ) L (mus s (atw (tx μ) L s.1 q.2.2) 1)) ρ' → Q none (pr ρ' μ)) : mt 276 5 0 0 mX9_takeWord [.ref 3, .ref (7000 + k)] Q X (pr ρ μ) := by
  show go 276 5 0 0 mX9_takeWord Q X 0 [.ref 3, .ref (7000 + k)] [] _
  refine go_aload_n (y := mX9_takeWord) (pc := 0) dX9_takeWord_0 rfl rfl ?_
  refine go_aload_n (y := mX9_takeWord) (pc := 1) dX9_takeWord_1 rfl rfl ?_
  refine go_aload_n (y := mX9_takeWord) (pc := 2) dX9_takeWord_2 rfl rfl ?_
  refine go_callV1 (y := mX9_takeWord) (pc := 3) (y' := mX9_isAtWord_) (kc2 := 0) (ks2 := 0) dX9_takeWord_3 ml_X9_59 ok_X9_isAtWord_ (show shp 3 = _ from rfl) ⟨_, _, rfl⟩ (by decide) rfl (by decide) (Nat.le_of_ble_eq_true rfl) rfl (t_isWord hi hL hT hr (fun v3 e3 b3 => ?_))
  refine go_if_eq (y := mX9_takeWord) (pc := 6) (tgt := 13) dX9_takeWord_6 (by decide) (by omega) (fun h6 => ?_) (fun h6 => ?_)
  · skip
    have g := bI_0 e3 h6
    rw [mus_e (q := (1 : Int) = 0) (iff_of_false g (by decide))] at K
    refine go_iconst (y := mX9_takeWord) (pc := 13) dX9_takeWord_13 ?_
    refine go_callV1 (y := mX9_takeWord) (pc := 14) (y' := mX9_take) (kc2 := 0) (ks2 := 0) dX9_takeWord_14 ml_X9_63 ok_X9_take (show shp 3 = _ from rfl) ⟨_, _, rfl⟩ (by decide) rfl (by decide) (Nat.le_of_ble_eq_true rfl) rfl (t_take (by omega) hL hT hr (fun ρ14 e14 => ?_))
    refine go_return (y := mX9_takeWord) (pc := 17) dX9_takeWord_17 rfl ?_
    exact K _ e14
  · skip
    have g := bI_1 e3 h6
    rw [mus_t g] at K
    refine go_iconst (y := mX9_takeWord) (pc := 9) dX9_takeWord_9 ?_
    refine go_goto (y := mX9_takeWord) (pc := 10) (tgt := 14) dX9_takeWord_10 (by decide) ?_
    refine go_callV1 (y := mX9_takeWord) (pc := 14) (y' := mX9_take) (kc2 := 0) (ks2 := 0) dX9_takeWord_14 ml_X9_63 ok_X9_take (show shp 3 = _ from rfl) ⟨_, _, rfl⟩ (by decide) rfl (by decide) (Nat.le_of_ble_eq_true rfl) rfl (t_take (by omega) hL hT hr (fun ρ14 e14 => ?_))
    refine go_return (y := mX9_takeWord) (pc := 17) dX9_takeWord_17 rfl ?_
    rw [mus_t rfl] at e14
    exact K _ e14
end Words
section MWords
variable {σ μ : Mem} {ν : Nat → Int} {f : Int → Int} {L : Nat} {s : Nat × Int × Int} {q : String × Nat × String}
end MWords
