/-! THE MODEL: leaves -/
set_option maxRecDepth 8000 in
set_option maxHeartbeats 4000000 in
theorem m_in {μ : Mem} {v a b : Int} (hv : rng v) (ha : rng a) (hb : rng b) {Q : Option Value → Mem → Prop} {X : String → Mem → Prop} (K : ∀ x, x = bI (a ≤ v ∧ v ≤ b) → x = 0 ∨ x = 1 → Q (some (.int (iI x))) μ) : mt 276 0 0 0 mX11_in [.int (iI v), .int (iI a), .int (iI b)] Q X μ := by
  show go 276 0 0 0 mX11_in Q X 0 [.int (iI v), .int (iI a), .int (iI b)] [] _
  refine go_iload_n (y := mX11_in) (pc := 0) dX11_in_0 rfl rfl ?_
  refine go_iload_n (y := mX11_in) (pc := 1) dX11_in_1 rfl rfl ?_
  refine go_icmp_gt (y := mX11_in) (pc := 2) (tgt := 14) dX11_in_2 (by decide) (by omega) (by omega) (fun h2 => ?_) (fun h2 => ?_)
  · skip
    refine go_iconst (y := mX11_in) (pc := 14) dX11_in_14 ?_
    refine go_zreturn (y := mX11_in) (pc := 15) dX11_in_15 rfl (by omega) ?_
    exact K _ (bI_f (by omega)).symm (by omega)
  · skip
    refine go_iload_n (y := mX11_in) (pc := 5) dX11_in_5 rfl rfl ?_
    refine go_iload_n (y := mX11_in) (pc := 6) dX11_in_6 rfl rfl ?_
    refine go_icmp_gt (y := mX11_in) (pc := 7) (tgt := 14) dX11_in_7 (by decide) (by omega) (by omega) (fun h7 => ?_) (fun h7 => ?_)
    · skip
      refine go_iconst (y := mX11_in) (pc := 14) dX11_in_14 ?_
      refine go_zreturn (y := mX11_in) (pc := 15) dX11_in_15 rfl (by omega) ?_
      exact K _ (bI_f (by omega)).symm (by omega)
    · skip
      refine go_iconst (y := mX11_in) (pc := 10) dX11_in_10 ?_
      refine go_goto (y := mX11_in) (pc := 11) (tgt := 15) dX11_in_11 (by decide) ?_
      refine go_zreturn (y := mX11_in) (pc := 15) dX11_in_15 rfl (by omega) ?_
      exact K _ (bI_t (by omega)).symm (by omega)
set_option maxRecDepth 8000 in
set_option maxHeartbeats 4000000 in
theorem m_right {σ μ : Mem} {ν : Nat → Int} {a x : Int} (h0 : σ 0 7 = 0) (ha : a = 0 ∨ a = 1) (hx : 1 ≤ x ∧ x ≤ 3) {Q : Option Value → Mem → Prop} {X : String → Mem → Prop} (K : ∀ v, v = a → a = 1 → Q (some (.int (iI v))) (md σ ν μ)) (K2 : a = 0 → Q (some (.int (iI 0))) (md (wr σ 0 7 x) ν μ)) : mt 289 0 0 0 mX11_right [.ref 276, .int (iI a), .int (iI x)] Q X (md σ ν μ) := by
  show go 289 0 0 0 mX11_right Q X 0 [.ref 276, .int (iI a), .int (iI x)] [] _
  refine go_aload_n (y := mX11_right) (pc := 0) dX11_right_0 rfl rfl ?_
  refine go_mget (y := mX11_right) (pc := 1) dX11_right_1 fl_X11_83 rfl rfl (by decide) (fun r1 => ?_)
  refine go_if_ne (y := mX11_right) (pc := 4) (tgt := 16) dX11_right_4 (by decide) (by omega) (fun h4 => ?_) (fun h4 => ?_)
  · skip
    exact absurd h0 h4
  · skip
    refine go_iload_n (y := mX11_right) (pc := 7) dX11_right_7 rfl rfl ?_
    refine go_if_ne (y := mX11_right) (pc := 8) (tgt := 16) dX11_right_8 (by decide) (by omega) (fun h8 => ?_) (fun h8 => ?_)
    · skip
      refine go_aload_n (y := mX11_right) (pc := 16) dX11_right_16 rfl rfl ?_
      refine go_mget (y := mX11_right) (pc := 17) dX11_right_17 fl_X11_83 rfl rfl (by decide) (fun r17 => ?_)
      refine go_if_ne (y := mX11_right) (pc := 20) (tgt := 27) dX11_right_20 (by decide) (by omega) (fun h20 => ?_) (fun h20 => ?_)
      · skip
        exact absurd h0 h20
      · skip
        refine go_iconst (y := mX11_right) (pc := 23) dX11_right_23 ?_
        refine go_goto (y := mX11_right) (pc := 24) (tgt := 28) dX11_right_24 (by decide) ?_
        refine go_zreturn (y := mX11_right) (pc := 28) dX11_right_28 rfl (by omega) ?_
        exact K 1 (by omega) (by omega)
    · skip
      refine go_aload_n (y := mX11_right) (pc := 11) dX11_right_11 rfl rfl ?_
      refine go_iload_n (y := mX11_right) (pc := 12) dX11_right_12 rfl rfl ?_
      refine go_mput (y := mX11_right) (pc := 13) dX11_right_13 fp_X11_83 rfl rfl (by decide) (by omega) ?_
      refine go_aload_n (y := mX11_right) (pc := 16) dX11_right_16 rfl rfl ?_
      refine go_mget (y := mX11_right) (pc := 17) dX11_right_17 fl_X11_83 rfl rfl (by decide) (fun r17 => ?_)
      refine go_top (b := x) (wr_s _ _ _ _) (fun t17 => ?_)
      refine go_if_ne (y := mX11_right) (pc := 20) (tgt := 27) dX11_right_20 (by decide) (by omega) (fun h20 => ?_) (fun h20 => ?_)
      · skip
        refine go_iconst (y := mX11_right) (pc := 27) dX11_right_27 ?_
        refine go_zreturn (y := mX11_right) (pc := 28) dX11_right_28 rfl (by omega) ?_
        exact K2 (by omega)
      · skip
        exact absurd h20 (by omega)
set_option maxRecDepth 8000 in
set_option maxHeartbeats 4000000 in
theorem m_of {σ μ : Mem} {ν : Nat → Int} {m w : Nat} (hm : m < 12) (hw : w < 6) {Q : Option Value → Mem → Prop} {X : String → Mem → Prop} (K : ∀ v, v = ν (18 + 6 * m + w) → rng v → Q (some (.int (iI v))) (md σ ν μ)) : mt 289 0 0 0 mX11_of [.ref 276, .int (iI (m : Nat)), .int (iI (w : Nat))] Q X (md σ ν μ) := by
  show go 289 0 0 0 mX11_of Q X 0 [.ref 276, .int (iI (m : Nat)), .int (iI (w : Nat))] [] _
  refine go_aload_n (y := mX11_of) (pc := 0) dX11_of_0 rfl rfl ?_
  refine go_mref (y := mX11_of) (pc := 1) dX11_of_1 fl_X11_7 rfl rfl (by decide) ?_
  refine go_bipush (y := mX11_of) (pc := 4) dX11_of_4 (by decide) ?_
  refine go_bipush (y := mX11_of) (pc := 6) dX11_of_6 (by decide) ?_
  refine go_iload_n (y := mX11_of) (pc := 8) dX11_of_8 rfl rfl ?_
  refine go_imul (y := mX11_of) (pc := 9) dX11_of_9 ?_
  refine go_iadd (y := mX11_of) (pc := 10) dX11_of_10 ?_
  refine go_iload_n (y := mX11_of) (pc := 11) dX11_of_11 rfl rfl ?_
  refine go_iadd (y := mX11_of) (pc := 12) dX11_of_12 ?_
  refine go_nial (y := mX11_of) (pc := 13) (k := ((18 + (6 * m)) + w)) dX11_of_13 (by decide) (by omega) (by omega) (fun r13 => ?_)
  refine go_ireturn (y := mX11_of) (pc := 14) dX11_of_14 rfl ?_
  exact K _ rfl (by assumption)
set_option maxRecDepth 8000 in
set_option maxHeartbeats 4000000 in
theorem m_puts {σ μ : Mem} {ν : Nat → Int} {m w : Nat} {v : Int} (hm : m < 12) (hw : w < 6) (hv : rng v) {Q : Option Value → Mem → Prop} {X : String → Mem → Prop} (K : Q none (md σ (wv ν (18 + 6 * m + w) v) μ)) : mt 289 0 0 0 mX11_puts [.ref 276, .int (iI (m : Nat)), .int (iI (w : Nat)), .int (iI v)] Q X (md σ ν μ) := by
  show go 289 0 0 0 mX11_puts Q X 0 [.ref 276, .int (iI (m : Nat)), .int (iI (w : Nat)), .int (iI v)] [] _
  refine go_aload_n (y := mX11_puts) (pc := 0) dX11_puts_0 rfl rfl ?_
  refine go_mref (y := mX11_puts) (pc := 1) dX11_puts_1 fl_X11_7 rfl rfl (by decide) ?_
  refine go_bipush (y := mX11_puts) (pc := 4) dX11_puts_4 (by decide) ?_
  refine go_bipush (y := mX11_puts) (pc := 6) dX11_puts_6 (by decide) ?_
  refine go_iload_n (y := mX11_puts) (pc := 8) dX11_puts_8 rfl rfl ?_
  refine go_imul (y := mX11_puts) (pc := 9) dX11_puts_9 ?_
  refine go_iadd (y := mX11_puts) (pc := 10) dX11_puts_10 ?_
  refine go_iload_n (y := mX11_puts) (pc := 11) dX11_puts_11 rfl rfl ?_
  refine go_iadd (y := mX11_puts) (pc := 12) dX11_puts_12 ?_
  refine go_iload_n (y := mX11_puts) (pc := 13) dX11_puts_13 rfl rfl ?_
  refine go_nias (y := mX11_puts) (pc := 14) (k := ((18 + (6 * m)) + w)) dX11_puts_14 (by decide) (by omega) (by omega) (by omega) ?_
  refine go_return (y := mX11_puts) (pc := 15) dX11_puts_15 rfl ?_
  exact K
set_option maxRecDepth 8000 in
set_option maxHeartbeats 4000000 in
theorem m_ofM {σ μ : Mem} {ν : Nat → Int} {q w : Nat} (hq : q < 16) (hw : w < 5) {Q : Option Value → Mem → Prop} {X : String → Mem → Prop} (K : ∀ v, v = ν (90 + 5 * q + w) → rng v → Q (some (.int (iI v))) (md σ ν μ)) : mt 289 0 0 0 mX11_ofM [.ref 276, .int (iI (q : Nat)), .int (iI (w : Nat))] Q X (md σ ν μ) := by
  show go 289 0 0 0 mX11_ofM Q X 0 [.ref 276, .int (iI (q : Nat)), .int (iI (w : Nat))] [] _
  refine go_aload_n (y := mX11_ofM) (pc := 0) dX11_ofM_0 rfl rfl ?_
  refine go_mref (y := mX11_ofM) (pc := 1) dX11_ofM_1 fl_X11_7 rfl rfl (by decide) ?_
  refine go_bipush (y := mX11_ofM) (pc := 4) dX11_ofM_4 (by decide) ?_
  refine go_iconst (y := mX11_ofM) (pc := 6) dX11_ofM_6 ?_
  refine go_iload_n (y := mX11_ofM) (pc := 7) dX11_ofM_7 rfl rfl ?_
  refine go_imul (y := mX11_ofM) (pc := 8) dX11_ofM_8 ?_
  refine go_iadd (y := mX11_ofM) (pc := 9) dX11_ofM_9 ?_
  refine go_iload_n (y := mX11_ofM) (pc := 10) dX11_ofM_10 rfl rfl ?_
  refine go_iadd (y := mX11_ofM) (pc := 11) dX11_ofM_11 ?_
  refine go_nial (y := mX11_ofM) (pc := 12) (k := ((90 + (5 * q)) + w)) dX11_ofM_12 (by decide) (by omega) (by omega) (fun r12 => ?_)
  refine go_ireturn (y := mX11_ofM) (pc := 13) dX11_ofM_13 rfl ?_
  exact K _ rfl (by assumption)
set_option maxRecDepth 8000 in
set_option maxHeartbeats 4000000 in
theorem m_putM {σ μ : Mem} {ν : Nat → Int} {q w : Nat} {v : Int} (hq : q < 16) (hw : w < 5) (hv : rng v) {Q : Option Value → Mem → Prop} {X : String → Mem → Prop} (K : Q none (md σ (wv ν (90 + 5 * q + w) v) μ)) : mt 289 0 0 0 mX11_putM [.ref 276, .int (iI (q : Nat)), .int (iI (w : Nat)), .int (iI v)] Q X (md σ ν μ) := by
  show go 289 0 0 0 mX11_putM Q X 0 [.ref 276, .int (iI (q : Nat)), .int (iI (w : Nat)), .int (iI v)] [] _
  refine go_aload_n (y := mX11_putM) (pc := 0) dX11_putM_0 rfl rfl ?_
  refine go_mref (y := mX11_putM) (pc := 1) dX11_putM_1 fl_X11_7 rfl rfl (by decide) ?_
  refine go_bipush (y := mX11_putM) (pc := 4) dX11_putM_4 (by decide) ?_
  refine go_iconst (y := mX11_putM) (pc := 6) dX11_putM_6 ?_
  refine go_iload_n (y := mX11_putM) (pc := 7) dX11_putM_7 rfl rfl ?_
  refine go_imul (y := mX11_putM) (pc := 8) dX11_putM_8 ?_
  refine go_iadd (y := mX11_putM) (pc := 9) dX11_putM_9 ?_
  refine go_iload_n (y := mX11_putM) (pc := 10) dX11_putM_10 rfl rfl ?_
  refine go_iadd (y := mX11_putM) (pc := 11) dX11_putM_11 ?_
  refine go_iload_n (y := mX11_putM) (pc := 12) dX11_putM_12 rfl rfl ?_
  refine go_nias (y := mX11_putM) (pc := 13) (k := ((90 + (5 * q)) + w)) dX11_putM_13 (by decide) (by omega) (by omega) (by omega) ?_
  refine go_return (y := mX11_putM) (pc := 14) dX11_putM_14 rfl ?_
  exact K
set_option maxRecDepth 8000 in
set_option maxHeartbeats 4000000 in
theorem m_ofC {σ μ : Mem} {ν : Nat → Int} {h w : Nat} (hh : h < 4) (hw : w < 5) {Q : Option Value → Mem → Prop} {X : String → Mem → Prop} (K : ∀ v, v = ν (362 + 5 * h + w) → rng v → Q (some (.int (iI v))) (md σ ν μ)) : mt 289 0 0 0 mX11_ofC [.ref 276, .int (iI (h : Nat)), .int (iI (w : Nat))] Q X (md σ ν μ) := by
  show go 289 0 0 0 mX11_ofC Q X 0 [.ref 276, .int (iI (h : Nat)), .int (iI (w : Nat))] [] _
  refine go_aload_n (y := mX11_ofC) (pc := 0) dX11_ofC_0 rfl rfl ?_
  refine go_mref (y := mX11_ofC) (pc := 1) dX11_ofC_1 fl_X11_7 rfl rfl (by decide) ?_
  refine go_sipush (y := mX11_ofC) (pc := 4) dX11_ofC_4 (by decide) ?_
  refine go_iconst (y := mX11_ofC) (pc := 7) dX11_ofC_7 ?_
  refine go_iload_n (y := mX11_ofC) (pc := 8) dX11_ofC_8 rfl rfl ?_
  refine go_imul (y := mX11_ofC) (pc := 9) dX11_ofC_9 ?_
  refine go_iadd (y := mX11_ofC) (pc := 10) dX11_ofC_10 ?_
  refine go_iload_n (y := mX11_ofC) (pc := 11) dX11_ofC_11 rfl rfl ?_
  refine go_iadd (y := mX11_ofC) (pc := 12) dX11_ofC_12 ?_
  refine go_nial (y := mX11_ofC) (pc := 13) (k := ((362 + (5 * h)) + w)) dX11_ofC_13 (by decide) (by omega) (by omega) (fun r13 => ?_)
  refine go_ireturn (y := mX11_ofC) (pc := 14) dX11_ofC_14 rfl ?_
  exact K _ rfl (by assumption)
set_option maxRecDepth 8000 in
set_option maxHeartbeats 4000000 in
theorem m_putC {σ μ : Mem} {ν : Nat → Int} {h w : Nat} {v : Int} (hh : h < 4) (hw : w < 5) (hv : rng v) {Q : Option Value → Mem → Prop} {X : String → Mem → Prop} (K : Q none (md σ (wv ν (362 + 5 * h + w) v) μ)) : mt 289 0 0 0 mX11_putC [.ref 276, .int (iI (h : Nat)), .int (iI (w : Nat)), .int (iI v)] Q X (md σ ν μ) := by
  show go 289 0 0 0 mX11_putC Q X 0 [.ref 276, .int (iI (h : Nat)), .int (iI (w : Nat)), .int (iI v)] [] _
  refine go_aload_n (y := mX11_putC) (pc := 0) dX11_putC_0 rfl rfl ?_
  refine go_mref (y := mX11_putC) (pc := 1) dX11_putC_1 fl_X11_7 rfl rfl (by decide) ?_
  refine go_sipush (y := mX11_putC) (pc := 4) dX11_putC_4 (by decide) ?_
  refine go_iconst (y := mX11_putC) (pc := 7) dX11_putC_7 ?_
  refine go_iload_n (y := mX11_putC) (pc := 8) dX11_putC_8 rfl rfl ?_
  refine go_imul (y := mX11_putC) (pc := 9) dX11_putC_9 ?_
  refine go_iadd (y := mX11_putC) (pc := 10) dX11_putC_10 ?_
  refine go_iload_n (y := mX11_putC) (pc := 11) dX11_putC_11 rfl rfl ?_
  refine go_iadd (y := mX11_putC) (pc := 12) dX11_putC_12 ?_
  refine go_iload_n (y := mX11_putC) (pc := 13) dX11_putC_13 rfl rfl ?_
  refine go_nias (y := mX11_putC) (pc := 14) (k := ((362 + (5 * h)) + w)) dX11_putC_14 (by decide) (by omega) (by omega) (by omega) ?_
  refine go_return (y := mX11_putC) (pc := 15) dX11_putC_15 rfl ?_
  exact K
set_option maxRecDepth 8000 in
set_option maxHeartbeats 4000000 in
theorem m_ofR {σ μ : Mem} {ν : Nat → Int} {r w : Nat} (hr : r < 12) (hw : w < 3) {Q : Option Value → Mem → Prop} {X : String → Mem → Prop} (K : ∀ v, v = ν (382 + 3 * r + w) → rng v → Q (some (.int (iI v))) (md σ ν μ)) : mt 289 0 0 0 mX11_ofR [.ref 276, .int (iI (r : Nat)), .int (iI (w : Nat))] Q X (md σ ν μ) := by
  show go 289 0 0 0 mX11_ofR Q X 0 [.ref 276, .int (iI (r : Nat)), .int (iI (w : Nat))] [] _
  refine go_aload_n (y := mX11_ofR) (pc := 0) dX11_ofR_0 rfl rfl ?_
  refine go_mref (y := mX11_ofR) (pc := 1) dX11_ofR_1 fl_X11_7 rfl rfl (by decide) ?_
  refine go_sipush (y := mX11_ofR) (pc := 4) dX11_ofR_4 (by decide) ?_
  refine go_iconst (y := mX11_ofR) (pc := 7) dX11_ofR_7 ?_
  refine go_iload_n (y := mX11_ofR) (pc := 8) dX11_ofR_8 rfl rfl ?_
  refine go_imul (y := mX11_ofR) (pc := 9) dX11_ofR_9 ?_
  refine go_iadd (y := mX11_ofR) (pc := 10) dX11_ofR_10 ?_
  refine go_iload_n (y := mX11_ofR) (pc := 11) dX11_ofR_11 rfl rfl ?_
  refine go_iadd (y := mX11_ofR) (pc := 12) dX11_ofR_12 ?_
  refine go_nial (y := mX11_ofR) (pc := 13) (k := ((382 + (3 * r)) + w)) dX11_ofR_13 (by decide) (by omega) (by omega) (fun r13 => ?_)
  refine go_ireturn (y := mX11_ofR) (pc := 14) dX11_ofR_14 rfl ?_
  exact K _ rfl (by assumption)
set_option maxRecDepth 8000 in
set_option maxHeartbeats 4000000 in
theorem m_leans {σ μ : Mem} {ν : Nat → Int} {m q : Nat} (hm : m < 12) (hq : q < 16) {Q : Option Value → Mem → Prop} {X : String → Mem → Prop} (K : ∀ v, v = ν (170 + 16 * m + q) → rng v → Q (some (.int (iI v))) (md σ ν μ)) : mt 289 0 0 0 mX11_leans [.ref 276, .int (iI (m : Nat)), .int (iI (q : Nat))] Q X (md σ ν μ) := by
  show go 289 0 0 0 mX11_leans Q X 0 [.ref 276, .int (iI (m : Nat)), .int (iI (q : Nat))] [] _
  refine go_aload_n (y := mX11_leans) (pc := 0) dX11_leans_0 rfl rfl ?_
  refine go_mref (y := mX11_leans) (pc := 1) dX11_leans_1 fl_X11_7 rfl rfl (by decide) ?_
  refine go_sipush (y := mX11_leans) (pc := 4) dX11_leans_4 (by decide) ?_
  refine go_bipush (y := mX11_leans) (pc := 7) dX11_leans_7 (by decide) ?_
  refine go_iload_n (y := mX11_leans) (pc := 9) dX11_leans_9 rfl rfl ?_
  refine go_imul (y := mX11_leans) (pc := 10) dX11_leans_10 ?_
  refine go_iadd (y := mX11_leans) (pc := 11) dX11_leans_11 ?_
  refine go_iload_n (y := mX11_leans) (pc := 12) dX11_leans_12 rfl rfl ?_
  refine go_iadd (y := mX11_leans) (pc := 13) dX11_leans_13 ?_
  refine go_nial (y := mX11_leans) (pc := 14) (k := ((170 + (16 * m)) + q)) dX11_leans_14 (by decide) (by omega) (by omega) (fun r14 => ?_)
  refine go_ireturn (y := mX11_leans) (pc := 15) dX11_leans_15 rfl ?_
  exact K _ rfl (by assumption)
section MReads
variable {S s σ μ : Mem} {ν : Nat → Int}
set_option maxRecDepth 8000 in
set_option maxHeartbeats 4000000 in
theorem m_isMember {m : Int} (hm : rng m) (hr : rel S s ν) (hS : wfS S) {Q : Option Value → Mem → Prop} {X : String → Mem → Prop} (K : ∀ x, x = bI (0 ≤ m ∧ m < S 0 7) → x = 0 ∨ x = 1 → Q (some (.int (iI x))) (md σ ν μ)) : mt 289 1 0 0 mX11_isMember [.ref 276, .int (iI m)] Q X (md σ ν μ) := by
  show go 289 1 0 0 mX11_isMember Q X 0 [.ref 276, .int (iI m)] [] _
  have n1 : 1 ≤ S 0 7 := hS.2.2.2.2.2.2.2.2.2.2.2.2.2.2.1
  have n2 : S 0 7 ≤ 12 := hS.2.2.2.2.2.2.2.2.2.2.2.2.2.2.2.1
  refine go_iload_n (y := mX11_isMember) (pc := 0) dX11_isMember_0 rfl rfl ?_
  refine go_iconst (y := mX11_isMember) (pc := 1) dX11_isMember_1 ?_
  refine go_aload_n (y := mX11_isMember) (pc := 2) dX11_isMember_2 rfl rfl ?_
  refine go_mref (y := mX11_isMember) (pc := 3) dX11_isMember_3 fl_X11_7 rfl rfl (by decide) ?_
  refine go_bipush (y := mX11_isMember) (pc := 6) dX11_isMember_6 (by decide) ?_
  refine go_nial (y := mX11_isMember) (pc := 8) (k := 8) dX11_isMember_8 (by decide) rfl (by omega) (fun r8 => ?_)
  refine go_top (b := S 0 7) (rs8 hr) (fun t8 => ?_)
  refine go_iconst (y := mX11_isMember) (pc := 9) dX11_isMember_9 ?_
  refine go_isub (y := mX11_isMember) (pc := 10) dX11_isMember_10 ?_
  refine go_callS3 (y := mX11_isMember) (pc := 11) (y' := mX11_in) (kc2 := 0) (ks2 := 0) dX11_isMember_11 ml_X11_86 ok_X11_in ⟨rfl, rfl, rfl⟩ (by decide) (Nat.le_of_ble_eq_true rfl) rfl (m_in (by omega) (by omega) (by omega) (fun v11 e11 b11 => ?_))
  refine go_zreturn (y := mX11_isMember) (pc := 14) dX11_isMember_14 rfl (by omega) ?_
  exact K _ (e11.trans (bI_c (by omega))) b11
set_option maxRecDepth 8000 in
set_option maxHeartbeats 4000000 in
theorem m_isMotion {q : Int} (hq : rng q) (hr : rel S s ν) (hC : wfC S s) {Q : Option Value → Mem → Prop} {X : String → Mem → Prop} (K : ∀ x, x = bI (0 ≤ q ∧ q < s 5 0) → x = 0 ∨ x = 1 → Q (some (.int (iI x))) (md σ ν μ)) : mt 289 1 0 0 mX11_isMotion [.ref 276, .int (iI q)] Q X (md σ ν μ) := by
  show go 289 1 0 0 mX11_isMotion Q X 0 [.ref 276, .int (iI q)] [] _
  have n1 := hC.1.1
  have n2 := hC.1.2.1
  refine go_iload_n (y := mX11_isMotion) (pc := 0) dX11_isMotion_0 rfl rfl ?_
  refine go_iconst (y := mX11_isMotion) (pc := 1) dX11_isMotion_1 ?_
  refine go_aload_n (y := mX11_isMotion) (pc := 2) dX11_isMotion_2 rfl rfl ?_
  refine go_mref (y := mX11_isMotion) (pc := 3) dX11_isMotion_3 fl_X11_7 rfl rfl (by decide) ?_
  refine go_bipush (y := mX11_isMotion) (pc := 6) dX11_isMotion_6 (by decide) ?_
  refine go_nial (y := mX11_isMotion) (pc := 8) (k := 9) dX11_isMotion_8 (by decide) rfl (by omega) (fun r8 => ?_)
  refine go_top (b := s 5 0) (rs9 hr) (fun t8 => ?_)
  refine go_iconst (y := mX11_isMotion) (pc := 9) dX11_isMotion_9 ?_
  refine go_isub (y := mX11_isMotion) (pc := 10) dX11_isMotion_10 ?_
  refine go_callS3 (y := mX11_isMotion) (pc := 11) (y' := mX11_in) (kc2 := 0) (ks2 := 0) dX11_isMotion_11 ml_X11_86 ok_X11_in ⟨rfl, rfl, rfl⟩ (by decide) (Nat.le_of_ble_eq_true rfl) rfl (m_in (by omega) (by omega) (by omega) (fun v11 e11 b11 => ?_))
  refine go_zreturn (y := mX11_isMotion) (pc := 14) dX11_isMotion_14 rfl (by omega) ?_
  exact K _ (e11.trans (bI_c (by omega))) b11
set_option maxRecDepth 8000 in
set_option maxHeartbeats 4000000 in
theorem m_isChair {h : Int} (hh : rng h) (hr : rel S s ν) (hS : wfS S) {Q : Option Value → Mem → Prop} {X : String → Mem → Prop} (K : ∀ x, x = bI (0 ≤ h ∧ h < S 0 0) → x = 0 ∨ x = 1 → Q (some (.int (iI x))) (md σ ν μ)) : mt 289 1 0 0 mX11_isChair [.ref 276, .int (iI h)] Q X (md σ ν μ) := by
  show go 289 1 0 0 mX11_isChair Q X 0 [.ref 276, .int (iI h)] [] _
  have n1 := hS.1
  have n2 := hS.2.1
  refine go_iload_n (y := mX11_isChair) (pc := 0) dX11_isChair_0 rfl rfl ?_
  refine go_iconst (y := mX11_isChair) (pc := 1) dX11_isChair_1 ?_
  refine go_aload_n (y := mX11_isChair) (pc := 2) dX11_isChair_2 rfl rfl ?_
  refine go_mref (y := mX11_isChair) (pc := 3) dX11_isChair_3 fl_X11_7 rfl rfl (by decide) ?_
  refine go_iconst (y := mX11_isChair) (pc := 6) dX11_isChair_6 ?_
  refine go_nial (y := mX11_isChair) (pc := 7) (k := 0) dX11_isChair_7 (by decide) rfl (by omega) (fun r7 => ?_)
  refine go_top (b := S 0 0) (rs0 hr) (fun t7 => ?_)
  refine go_iconst (y := mX11_isChair) (pc := 8) dX11_isChair_8 ?_
  refine go_isub (y := mX11_isChair) (pc := 9) dX11_isChair_9 ?_
  refine go_callS3 (y := mX11_isChair) (pc := 10) (y' := mX11_in) (kc2 := 0) (ks2 := 0) dX11_isChair_10 ml_X11_86 ok_X11_in ⟨rfl, rfl, rfl⟩ (by decide) (Nat.le_of_ble_eq_true rfl) rfl (m_in (by omega) (by omega) (by omega) (fun v10 e10 b10 => ?_))
  refine go_zreturn (y := mX11_isChair) (pc := 13) dX11_isChair_13 rfl (by omega) ?_
  exact K _ (e10.trans (bI_c (by omega))) b10
set_option maxRecDepth 8000 in
set_option maxHeartbeats 4000000 in
theorem m_isRanking {r : Int} (hr : rng r) {Q : Option Value → Mem → Prop} {X : String → Mem → Prop} (K : ∀ x, x = bI (0 ≤ r ∧ r ≤ 3) → x = 0 ∨ x = 1 → Q (some (.int (iI x))) μ) : mt 276 1 0 0 mX11_isRanking [.int (iI r)] Q X μ := by
  show go 276 1 0 0 mX11_isRanking Q X 0 [.int (iI r)] [] _
  refine go_iload_n (y := mX11_isRanking) (pc := 0) dX11_isRanking_0 rfl rfl ?_
  refine go_iconst (y := mX11_isRanking) (pc := 1) dX11_isRanking_1 ?_
  refine go_iconst (y := mX11_isRanking) (pc := 2) dX11_isRanking_2 ?_
  refine go_callS3 (y := mX11_isRanking) (pc := 3) (y' := mX11_in) (kc2 := 0) (ks2 := 0) dX11_isRanking_3 ml_X11_86 ok_X11_in ⟨rfl, rfl, rfl⟩ (by decide) (Nat.le_of_ble_eq_true rfl) rfl (m_in (by omega) (by omega) (by omega) (fun v3 e3 b3 => ?_))
  refine go_zreturn (y := mX11_isRanking) (pc := 6) dX11_isRanking_6 rfl (by omega) ?_
  exact K _ e3 b3
set_option maxRecDepth 8000 in
set_option maxHeartbeats 4000000 in
theorem m_isOpen {q : Nat} (hq : (q : Int) < s 5 0) (h16 : s 5 0 ≤ 16) (hr : rel S s ν) {Q : Option Value → Mem → Prop} {X : String → Mem → Prop} (K : ∀ x, x = bI (s 7 q = 0) → x = 0 ∨ x = 1 → Q (some (.int (iI x))) (md σ ν μ)) : mt 289 1 0 0 mX11_isOpen [.ref 276, .int (iI (q : Nat))] Q X (md σ ν μ) := by
  show go 289 1 0 0 mX11_isOpen Q X 0 [.ref 276, .int (iI (q : Nat))] [] _
  refine go_aload_n (y := mX11_isOpen) (pc := 0) dX11_isOpen_0 rfl rfl ?_
  refine go_iload_n (y := mX11_isOpen) (pc := 1) dX11_isOpen_1 rfl rfl ?_
  refine go_iconst (y := mX11_isOpen) (pc := 2) dX11_isOpen_2 ?_
  refine go_callV2 (y := mX11_isOpen) (pc := 3) (y' := mX11_ofM) (kc2 := 0) (ks2 := 0) dX11_isOpen_3 ml_X11_90 ok_X11_ofM (show shp 276 = _ from rfl) ⟨_, _, rfl⟩ (by decide) ⟨rfl, rfl⟩ (by decide) (Nat.le_of_ble_eq_true rfl) rfl (m_ofM (q := q) (w := 3) (by omega) (by decide) (fun v3 e3 r3 => ?_))
  refine go_top (b := s 7 q) (e3.trans (rqS hr hq)) (fun t3 => ?_)
  refine go_if_ne (y := mX11_isOpen) (pc := 6) (tgt := 13) dX11_isOpen_6 (by decide) (by omega) (fun h6 => ?_) (fun h6 => ?_)
  · skip
    refine go_iconst (y := mX11_isOpen) (pc := 13) dX11_isOpen_13 ?_
    refine go_zreturn (y := mX11_isOpen) (pc := 14) dX11_isOpen_14 rfl (by omega) ?_
    exact K _ (bI_f (by omega)).symm (by omega)
  · skip
    refine go_iconst (y := mX11_isOpen) (pc := 9) dX11_isOpen_9 ?_
    refine go_goto (y := mX11_isOpen) (pc := 10) (tgt := 14) dX11_isOpen_10 (by decide) ?_
    refine go_zreturn (y := mX11_isOpen) (pc := 14) dX11_isOpen_14 rfl (by omega) ?_
    exact K _ (bI_t (by omega)).symm (by omega)
theorem tkn_n {S s : Mem} {m : Int} (hS : wfS S) (hC : wfC S s) (hm : m ≠ -1) {k : Nat} (hk : (k : Int) = S 0 0) (hn : ∀ i, i < k → ¬ s 16 i = m) : tkn s m = -1 := by
  refine fnd_0 (fun i hi => ?_)
  by_cases g : i < k
  · exact hn i g
  · have := hC.2.2.2.2.2 i hi
    omega
set_option maxRecDepth 8000 in
set_option maxHeartbeats 4000000 in
theorem m_seatOf {m : Int} (hm : rng m) (hm1 : m ≠ -1) (hr : rel S s ν) (hS : wfS S) (hC : wfC S s) {Q : Option Value → Mem → Prop} {X : String → Mem → Prop} (K : ∀ v, v = tkn s m → -1 ≤ v ∧ v < 4 → Q (some (.int (iI v))) (md σ ν μ)) : mt 289 1 0 0 mX11_seatOf [.ref 276, .int (iI m)] Q X (md σ ν μ) := by
  show go 289 1 0 0 mX11_seatOf Q X 0 [.ref 276, .int (iI m), .null] [] _
  have c1 := hS.1
  have c4 := hS.2.1
  have loop : ∀ (n k : Nat), (k : Int) + n = S 0 0 → (∀ i, i < k → ¬ s 16 i = m) → go 289 1 0 0 mX11_seatOf Q X 2 [.ref 276, .int (iI m), .int (iI (k : Nat))] [] (md σ ν μ) := by
    intro n
    induction n using Nat.strongRecOn with
    | _ n ih =>
      intro k hk hn
      refine go_iload_n (y := mX11_seatOf) (pc := 2) dX11_seatOf_2 rfl rfl ?_
      refine go_aload_n (y := mX11_seatOf) (pc := 3) dX11_seatOf_3 rfl rfl ?_
      refine go_mref (y := mX11_seatOf) (pc := 4) dX11_seatOf_4 fl_X11_7 rfl rfl (by decide) ?_
      refine go_iconst (y := mX11_seatOf) (pc := 7) dX11_seatOf_7 ?_
      refine go_nial (y := mX11_seatOf) (pc := 8) (k := 0) dX11_seatOf_8 (by decide) rfl (by omega) (fun r8 => ?_)
      refine go_top (b := S 0 0) (rs0 hr) (fun t8 => ?_)
      refine go_icmp_ge (y := mX11_seatOf) (pc := 9) (tgt := 30) dX11_seatOf_9 (by decide) (by omega) (by omega) (fun h9 => ?_) (fun h9 => ?_)
      · skip
        refine go_iconst (y := mX11_seatOf) (pc := 30) dX11_seatOf_30 ?_
        refine go_ireturn (y := mX11_seatOf) (pc := 31) dX11_seatOf_31 rfl ?_
        exact K _ (tkn_n hS hC hm1 (by omega) hn).symm (by omega)
      · skip
        refine go_aload_n (y := mX11_seatOf) (pc := 12) dX11_seatOf_12 rfl rfl ?_
        refine go_iload_n (y := mX11_seatOf) (pc := 13) dX11_seatOf_13 rfl rfl ?_
        refine go_iconst (y := mX11_seatOf) (pc := 14) dX11_seatOf_14 ?_
        refine go_callV2 (y := mX11_seatOf) (pc := 15) (y' := mX11_ofC) (kc2 := 0) (ks2 := 0) dX11_seatOf_15 ml_X11_94 ok_X11_ofC (show shp 276 = _ from rfl) ⟨_, _, rfl⟩ (by decide) ⟨rfl, rfl⟩ (by decide) (Nat.le_of_ble_eq_true rfl) rfl (m_ofC (h := k) (w := 0) (by omega) (by decide) (fun v15 e15 r15 => ?_))
        refine go_top (b := s 16 k) (e15.trans (rhB hr (by omega))) (fun t15 => ?_)
        refine go_iload_n (y := mX11_seatOf) (pc := 18) dX11_seatOf_18 rfl rfl ?_
        refine go_icmp_ne (y := mX11_seatOf) (pc := 19) (tgt := 24) dX11_seatOf_19 (by decide) (by omega) (by omega) (fun h19 => ?_) (fun h19 => ?_)
        · skip
          refine go_iinc (y := mX11_seatOf) (pc := 24) dX11_seatOf_24 rfl (by decide) ?_
          refine go_goto (y := mX11_seatOf) (pc := 27) (tgt := 2) dX11_seatOf_27 (by decide) ?_
          exact ih (n - 1) (by omega) (k + 1) (by omega) (lt_s hn h19)
        · skip
          refine go_iload_n (y := mX11_seatOf) (pc := 22) dX11_seatOf_22 rfl rfl ?_
          refine go_ireturn (y := mX11_seatOf) (pc := 23) dX11_seatOf_23 rfl ?_
          exact K _ (fnd_1 (by omega) h19 hn).symm (by omega)
  refine go_iconst (y := mX11_seatOf) (pc := 0) dX11_seatOf_0 ?_
  refine go_istore_n (y := mX11_seatOf) (pc := 1) dX11_seatOf_1 rfl (by decide) ?_
  exact loop (S 0 0).toNat 0 (by omega) lt_0
set_option maxRecDepth 8000 in
set_option maxHeartbeats 4000000 in
theorem m_listedAt {m : Int} (hm : rng m) (hr : rel S s ν) (hS : wfS S) (hC : wfC S s) {Q : Option Value → Mem → Prop} {X : String → Mem → Prop} (K : ∀ v, v = plc s m → -1 ≤ v ∧ v < s 11 0 → Q (some (.int (iI v))) (md σ ν μ)) : mt 289 1 0 0 mX11_listedAt [.ref 276, .int (iI m)] Q X (md σ ν μ) := by
  show go 289 1 0 0 mX11_listedAt Q X 0 [.ref 276, .int (iI m), .null] [] _
  have r0 := hC.1.2.2.1
  have r12 : s 11 0 ≤ 12 := by have := hC.1.2.2.2.1; have := hS.2.2.2.2.2.2.2.2.2.2.2.2.2.2.2.1; omega
  have loop : ∀ (n k : Nat), (k : Int) + n = s 11 0 → (∀ i, i < k → ¬ s 12 i = m) → go 289 1 0 0 mX11_listedAt Q X 2 [.ref 276, .int (iI m), .int (iI (k : Nat))] [] (md σ ν μ) := by
    intro n
    induction n using Nat.strongRecOn with
    | _ n ih =>
      intro k hk hn
      refine go_iload_n (y := mX11_listedAt) (pc := 2) dX11_listedAt_2 rfl rfl ?_
      refine go_aload_n (y := mX11_listedAt) (pc := 3) dX11_listedAt_3 rfl rfl ?_
      refine go_mref (y := mX11_listedAt) (pc := 4) dX11_listedAt_4 fl_X11_7 rfl rfl (by decide) ?_
      refine go_bipush (y := mX11_listedAt) (pc := 7) dX11_listedAt_7 (by decide) ?_
      refine go_nial (y := mX11_listedAt) (pc := 9) (k := 11) dX11_listedAt_9 (by decide) rfl (by omega) (fun r9 => ?_)
      refine go_top (b := s 11 0) (rs11 hr) (fun t9 => ?_)
      refine go_icmp_ge (y := mX11_listedAt) (pc := 10) (tgt := 31) dX11_listedAt_10 (by decide) (by omega) (by omega) (fun h10 => ?_) (fun h10 => ?_)
      · skip
        refine go_iconst (y := mX11_listedAt) (pc := 31) dX11_listedAt_31 ?_
        refine go_ireturn (y := mX11_listedAt) (pc := 32) dX11_listedAt_32 rfl ?_
        exact K _ (fnd_0 (fun i hi => hn i (by omega))).symm (by omega)
      · skip
        refine go_aload_n (y := mX11_listedAt) (pc := 13) dX11_listedAt_13 rfl rfl ?_
        refine go_iload_n (y := mX11_listedAt) (pc := 14) dX11_listedAt_14 rfl rfl ?_
        refine go_iconst (y := mX11_listedAt) (pc := 15) dX11_listedAt_15 ?_
        refine go_callV2 (y := mX11_listedAt) (pc := 16) (y' := mX11_ofR) (kc2 := 0) (ks2 := 0) dX11_listedAt_16 ml_X11_97 ok_X11_ofR (show shp 276 = _ from rfl) ⟨_, _, rfl⟩ (by decide) ⟨rfl, rfl⟩ (by decide) (Nat.le_of_ble_eq_true rfl) rfl (m_ofR (r := k) (w := 0) (by omega) (by decide) (fun v16 e16 r16 => ?_))
        refine go_top (b := s 12 k) (e16.trans (rrB hr (by omega))) (fun t16 => ?_)
        refine go_iload_n (y := mX11_listedAt) (pc := 19) dX11_listedAt_19 rfl rfl ?_
        refine go_icmp_ne (y := mX11_listedAt) (pc := 20) (tgt := 25) dX11_listedAt_20 (by decide) (by omega) (by omega) (fun h20 => ?_) (fun h20 => ?_)
        · skip
          refine go_iinc (y := mX11_listedAt) (pc := 25) dX11_listedAt_25 rfl (by decide) ?_
          refine go_goto (y := mX11_listedAt) (pc := 28) (tgt := 2) dX11_listedAt_28 (by decide) ?_
          exact ih (n - 1) (by omega) (k + 1) (by omega) (lt_s hn h20)
        · skip
          refine go_iload_n (y := mX11_listedAt) (pc := 23) dX11_listedAt_23 rfl rfl ?_
          refine go_ireturn (y := mX11_listedAt) (pc := 24) dX11_listedAt_24 rfl ?_
          exact K _ (fnd_1 (by omega) h20 hn).symm (by omega)
  refine go_iconst (y := mX11_listedAt) (pc := 0) dX11_listedAt_0 ?_
  refine go_istore_n (y := mX11_listedAt) (pc := 1) dX11_listedAt_1 rfl (by decide) ?_
  exact loop (s 11 0).toNat 0 (by omega) lt_0
set_option maxRecDepth 8000 in
set_option maxHeartbeats 4000000 in
theorem m_isSpokenAbout {q : Int} (hq : rng q) (hr : rel S s ν) (hS : wfS S) (hC : wfC S s) {Q : Option Value → Mem → Prop} {X : String → Mem → Prop} (K : ∀ v, v = bI (spa s q) → v = 0 ∨ v = 1 → Q (some (.int (iI v))) (md σ ν μ)) : mt 289 1 0 0 mX11_isSpokenAbout [.ref 276, .int (iI q)] Q X (md σ ν μ) := by
  show go 289 1 0 0 mX11_isSpokenAbout Q X 0 [.ref 276, .int (iI q), .null] [] _
  have c1 := hS.1
  have c4 := hS.2.1
  have loop : ∀ (n k : Nat), (k : Int) + n = S 0 0 → (∀ i, i < k → ¬ (s 16 i ≠ -1 ∧ s 17 i = q)) → go 289 1 0 0 mX11_isSpokenAbout Q X 2 [.ref 276, .int (iI q), .int (iI (k : Nat))] [] (md σ ν μ) := by
    intro n
    induction n using Nat.strongRecOn with
    | _ n ih =>
      intro k hk hn
      refine go_iload_n (y := mX11_isSpokenAbout) (pc := 2) dX11_isSpokenAbout_2 rfl rfl ?_
      refine go_aload_n (y := mX11_isSpokenAbout) (pc := 3) dX11_isSpokenAbout_3 rfl rfl ?_
      refine go_mref (y := mX11_isSpokenAbout) (pc := 4) dX11_isSpokenAbout_4 fl_X11_7 rfl rfl (by decide) ?_
      refine go_iconst (y := mX11_isSpokenAbout) (pc := 7) dX11_isSpokenAbout_7 ?_
      refine go_nial (y := mX11_isSpokenAbout) (pc := 8) (k := 0) dX11_isSpokenAbout_8 (by decide) rfl (by omega) (fun r8 => ?_)
      refine go_top (b := S 0 0) (rs0 hr) (fun t8 => ?_)
      refine go_icmp_ge (y := mX11_isSpokenAbout) (pc := 9) (tgt := 40) dX11_isSpokenAbout_9 (by decide) (by omega) (by omega) (fun h9 => ?_) (fun h9 => ?_)
      · skip
        refine go_iconst (y := mX11_isSpokenAbout) (pc := 40) dX11_isSpokenAbout_40 ?_
        refine go_zreturn (y := mX11_isSpokenAbout) (pc := 41) dX11_isSpokenAbout_41 rfl (by omega) ?_
        refine K _ (bI_f (fun w => w (fnd_0 (fun i hi => ?_)))).symm (by omega)
        by_cases g : i < k
        · exact hn i g
        · have := hC.2.2.2.2.2 i hi
          omega
      · skip
        refine go_aload_n (y := mX11_isSpokenAbout) (pc := 12) dX11_isSpokenAbout_12 rfl rfl ?_
        refine go_iload_n (y := mX11_isSpokenAbout) (pc := 13) dX11_isSpokenAbout_13 rfl rfl ?_
        refine go_iconst (y := mX11_isSpokenAbout) (pc := 14) dX11_isSpokenAbout_14 ?_
        refine go_callV2 (y := mX11_isSpokenAbout) (pc := 15) (y' := mX11_ofC) (kc2 := 0) (ks2 := 0) dX11_isSpokenAbout_15 ml_X11_94 ok_X11_ofC (show shp 276 = _ from rfl) ⟨_, _, rfl⟩ (by decide) ⟨rfl, rfl⟩ (by decide) (Nat.le_of_ble_eq_true rfl) rfl (m_ofC (h := k) (w := 0) (by omega) (by decide) (fun v15 e15 r15 => ?_))
        refine go_top (b := s 16 k) (e15.trans (rhB hr (by omega))) (fun t15 => ?_)
        refine go_iconst (y := mX11_isSpokenAbout) (pc := 18) dX11_isSpokenAbout_18 ?_
        refine go_icmp_eq (y := mX11_isSpokenAbout) (pc := 19) (tgt := 34) dX11_isSpokenAbout_19 (by decide) (by omega) (by omega) (fun h19 => ?_) (fun h19 => ?_)
        · skip
          refine go_iinc (y := mX11_isSpokenAbout) (pc := 34) dX11_isSpokenAbout_34 rfl (by decide) ?_
          refine go_goto (y := mX11_isSpokenAbout) (pc := 37) (tgt := 2) dX11_isSpokenAbout_37 (by decide) ?_
          exact ih (n - 1) (by omega) (k + 1) (by omega) (lt_s hn (fun w => w.1 h19))
        · skip
          refine go_aload_n (y := mX11_isSpokenAbout) (pc := 22) dX11_isSpokenAbout_22 rfl rfl ?_
          refine go_iload_n (y := mX11_isSpokenAbout) (pc := 23) dX11_isSpokenAbout_23 rfl rfl ?_
          refine go_iconst (y := mX11_isSpokenAbout) (pc := 24) dX11_isSpokenAbout_24 ?_
          refine go_callV2 (y := mX11_isSpokenAbout) (pc := 25) (y' := mX11_ofC) (kc2 := 0) (ks2 := 0) dX11_isSpokenAbout_25 ml_X11_94 ok_X11_ofC (show shp 276 = _ from rfl) ⟨_, _, rfl⟩ (by decide) ⟨rfl, rfl⟩ (by decide) (Nat.le_of_ble_eq_true rfl) rfl (m_ofC (h := k) (w := 1) (by omega) (by decide) (fun v25 e25 r25 => ?_))
          refine go_top (b := s 17 k) (e25.trans (rhA hr (by omega) h19)) (fun t25 => ?_)
          refine go_iload_n (y := mX11_isSpokenAbout) (pc := 28) dX11_isSpokenAbout_28 rfl rfl ?_
          refine go_icmp_ne (y := mX11_isSpokenAbout) (pc := 29) (tgt := 34) dX11_isSpokenAbout_29 (by decide) (by omega) (by omega) (fun h29 => ?_) (fun h29 => ?_)
          · skip
            refine go_iinc (y := mX11_isSpokenAbout) (pc := 34) dX11_isSpokenAbout_34 rfl (by decide) ?_
            refine go_goto (y := mX11_isSpokenAbout) (pc := 37) (tgt := 2) dX11_isSpokenAbout_37 (by decide) ?_
            exact ih (n - 1) (by omega) (k + 1) (by omega) (lt_s hn (fun w => h29 w.2))
          · skip
            refine go_iconst (y := mX11_isSpokenAbout) (pc := 32) dX11_isSpokenAbout_32 ?_
            refine go_zreturn (y := mX11_isSpokenAbout) (pc := 33) dX11_isSpokenAbout_33 rfl (by omega) ?_
            exact K _ (bI_t (by have h9 := fnd_1 (p := fun h => s 16 h ≠ -1 ∧ s 17 h = q) (k := k) (n := 4) (by omega) ⟨h19, h29⟩ hn; show fnd _ 4 ≠ -1; rw [h9]; omega)).symm (by omega)
  refine go_iconst (y := mX11_isSpokenAbout) (pc := 0) dX11_isSpokenAbout_0 ?_
  refine go_istore_n (y := mX11_isSpokenAbout) (pc := 1) dX11_isSpokenAbout_1 rfl (by decide) ?_
  exact loop (S 0 0).toNat 0 (by omega) lt_0
theorem smf_0 {f : Nat → Int} {k : Nat} : ∀ {n : Nat}, k ≤ n → (∀ i, k ≤ i → i < n → f i = 0) → smf f n = smf f k
  | 0, h, _ => by obtain rfl : k = 0 := by omega
                  rfl
  | n + 1, h, h0 => by
    by_cases e : k = n + 1
    · subst e; rfl
    · rw [smf, smf_0 (n := n) (by omega) (fun i h1 h2 => h0 i h1 (by omega)), h0 n (by omega) (by omega)]
      omega
set_option maxRecDepth 8000 in
set_option maxHeartbeats 4000000 in
theorem m_mirrorsLeft (hr : rel S s ν) (hS : wfS S) (hC : wfC S s) {Q : Option Value → Mem → Prop} {X : String → Mem → Prop} (K : ∀ v, v = frm S s → 0 ≤ v ∧ v ≤ 5 → Q (some (.int (iI v))) (md σ ν μ)) : mt 289 1 0 0 mX11_mirrorsLeft [.ref 276] Q X (md σ ν μ) := by
  show go 289 1 0 0 mX11_mirrorsLeft Q X 0 [.ref 276, .null, .null] [] _
  have c1 := hS.1
  have c4 := hS.2.1
  have m0 := hS.2.2.1
  have m5 := hS.2.2.2.1
  have hmr := hC.1.2.2.2.2.2.2
  have hbd : ∀ k, k ≤ 4 → 0 ≤ smf (fun h => s 20 h) k ∧ smf (fun h => s 20 h) k ≤ k * 1 := fun k hk => smf_bd (b := 1) (fun i hi => by have := hC.2.2.2.2.2 i (by omega); omega)
  have loop : ∀ (n k : Nat), (k : Int) + n = S 0 0 → go 289 1 0 0 mX11_mirrorsLeft Q X 9 [.ref 276, .int (iI (S 0 1 - smf (fun h => s 20 h) k)), .int (iI (k : Nat))] [] (md σ ν μ) := by
    intro n
    induction n using Nat.strongRecOn with
    | _ n ih =>
      intro k hk
      have ih' := ih (n - 1)
      refine go_iload_n (y := mX11_mirrorsLeft) (pc := 9) dX11_mirrorsLeft_9 rfl rfl ?_
      refine go_aload_n (y := mX11_mirrorsLeft) (pc := 10) dX11_mirrorsLeft_10 rfl rfl ?_
      refine go_mref (y := mX11_mirrorsLeft) (pc := 11) dX11_mirrorsLeft_11 fl_X11_7 rfl rfl (by decide) ?_
      refine go_iconst (y := mX11_mirrorsLeft) (pc := 14) dX11_mirrorsLeft_14 ?_
      refine go_nial (y := mX11_mirrorsLeft) (pc := 15) (k := 0) dX11_mirrorsLeft_15 (by decide) rfl (by omega) (fun r15 => ?_)
      refine go_top (b := S 0 0) (rs0 hr) (fun t15 => ?_)
      refine go_icmp_ge (y := mX11_mirrorsLeft) (pc := 16) (tgt := 48) dX11_mirrorsLeft_16 (by decide) (by omega) (by omega) (fun h16 => ?_) (fun h16 => ?_)
      · skip
        refine go_iload_n (y := mX11_mirrorsLeft) (pc := 48) dX11_mirrorsLeft_48 rfl rfl ?_
        refine go_ireturn (y := mX11_mirrorsLeft) (pc := 49) dX11_mirrorsLeft_49 rfl ?_
        have e : smf (fun h => s 20 h) k = mrs s := by
          unfold mrs
          exact (smf_0 (by omega) (fun i h1 h2 => by have := hC.2.2.2.2.2 i h2; omega)).symm
        rw [e]
        have := hbd 4 (by omega)
        exact K _ rfl (by unfold mrs at *; omega)
      · skip
        have hX := hC.2.2.2.2.2 k (by omega)
        refine go_aload_n (y := mX11_mirrorsLeft) (pc := 19) dX11_mirrorsLeft_19 rfl rfl ?_
        refine go_iload_n (y := mX11_mirrorsLeft) (pc := 20) dX11_mirrorsLeft_20 rfl rfl ?_
        refine go_iconst (y := mX11_mirrorsLeft) (pc := 21) dX11_mirrorsLeft_21 ?_
        refine go_callV2 (y := mX11_mirrorsLeft) (pc := 22) (y' := mX11_ofC) (kc2 := 0) (ks2 := 0) dX11_mirrorsLeft_22 ml_X11_94 ok_X11_ofC (show shp 276 = _ from rfl) ⟨_, _, rfl⟩ (by decide) ⟨rfl, rfl⟩ (by decide) (Nat.le_of_ble_eq_true rfl) rfl (m_ofC (h := k) (w := 0) (by omega) (by decide) (fun v22 e22 r22 => ?_))
        refine go_top (b := s 16 k) (e22.trans (rhB hr (by omega))) (fun t22 => ?_)
        refine go_iconst (y := mX11_mirrorsLeft) (pc := 25) dX11_mirrorsLeft_25 ?_
        refine go_icmp_eq (y := mX11_mirrorsLeft) (pc := 26) (tgt := 42) dX11_mirrorsLeft_26 (by decide) (by omega) (by omega) (fun h26 => ?_) (fun h26 => ?_)
        · skip
          refine go_iinc (y := mX11_mirrorsLeft) (pc := 42) dX11_mirrorsLeft_42 rfl (by decide) ?_
          refine go_goto (y := mX11_mirrorsLeft) (pc := 45) (tgt := 9) dX11_mirrorsLeft_45 (by decide) ?_
          have h := ih' (by omega) (k + 1) (by omega)
          have e : S 0 1 - smf (fun h => s 20 h) (k + 1) = S 0 1 - smf (fun h => s 20 h) k := by rw [smf]; omega
          rw [e] at h
          exact h
        · skip
          refine go_aload_n (y := mX11_mirrorsLeft) (pc := 29) dX11_mirrorsLeft_29 rfl rfl ?_
          refine go_iload_n (y := mX11_mirrorsLeft) (pc := 30) dX11_mirrorsLeft_30 rfl rfl ?_
          refine go_iconst (y := mX11_mirrorsLeft) (pc := 31) dX11_mirrorsLeft_31 ?_
          refine go_callV2 (y := mX11_mirrorsLeft) (pc := 32) (y' := mX11_ofC) (kc2 := 0) (ks2 := 0) dX11_mirrorsLeft_32 ml_X11_94 ok_X11_ofC (show shp 276 = _ from rfl) ⟨_, _, rfl⟩ (by decide) ⟨rfl, rfl⟩ (by decide) (Nat.le_of_ble_eq_true rfl) rfl (m_ofC (h := k) (w := 4) (by omega) (by decide) (fun v32 e32 r32 => ?_))
          refine go_top (b := s 20 k) (e32.trans (rhM hr (by omega) h26)) (fun t32 => ?_)
          refine go_iconst (y := mX11_mirrorsLeft) (pc := 35) dX11_mirrorsLeft_35 ?_
          refine go_icmp_ne (y := mX11_mirrorsLeft) (pc := 36) (tgt := 42) dX11_mirrorsLeft_36 (by decide) (by omega) (by omega) (fun h36 => ?_) (fun h36 => ?_)
          · skip
            refine go_iinc (y := mX11_mirrorsLeft) (pc := 42) dX11_mirrorsLeft_42 rfl (by decide) ?_
            refine go_goto (y := mX11_mirrorsLeft) (pc := 45) (tgt := 9) dX11_mirrorsLeft_45 (by decide) ?_
            have h := ih' (by omega) (k + 1) (by omega)
            have e : S 0 1 - smf (fun h => s 20 h) (k + 1) = S 0 1 - smf (fun h => s 20 h) k := by rw [smf]; omega
            rw [e] at h
            exact h
          · skip
            refine go_iinc (y := mX11_mirrorsLeft) (pc := 39) dX11_mirrorsLeft_39 rfl (by decide) ?_
            refine go_iinc (y := mX11_mirrorsLeft) (pc := 42) dX11_mirrorsLeft_42 rfl (by decide) ?_
            refine go_goto (y := mX11_mirrorsLeft) (pc := 45) (tgt := 9) dX11_mirrorsLeft_45 (by decide) ?_
            have h := ih' (by omega) (k + 1) (by omega)
            have e : S 0 1 - smf (fun h => s 20 h) (k + 1) = S 0 1 - smf (fun h => s 20 h) k + -1 := by rw [smf]; omega
            rw [e] at h
            exact h
  refine go_aload_n (y := mX11_mirrorsLeft) (pc := 0) dX11_mirrorsLeft_0 rfl rfl ?_
  refine go_mref (y := mX11_mirrorsLeft) (pc := 1) dX11_mirrorsLeft_1 fl_X11_7 rfl rfl (by decide) ?_
  refine go_iconst (y := mX11_mirrorsLeft) (pc := 4) dX11_mirrorsLeft_4 ?_
  refine go_nial (y := mX11_mirrorsLeft) (pc := 5) (k := 1) dX11_mirrorsLeft_5 (by decide) rfl (by omega) (fun r5 => ?_)
  refine go_top (b := S 0 1 - 0) ((rs1 hr).trans (by omega)) (fun t5 => ?_)
  refine go_istore_n (y := mX11_mirrorsLeft) (pc := 6) dX11_mirrorsLeft_6 rfl (by decide) ?_
  refine go_iconst (y := mX11_mirrorsLeft) (pc := 7) dX11_mirrorsLeft_7 ?_
  refine go_istore_n (y := mX11_mirrorsLeft) (pc := 8) dX11_mirrorsLeft_8 rfl (by decide) ?_
  exact loop (S 0 0).toNat 0 (by omega)
end MReads
