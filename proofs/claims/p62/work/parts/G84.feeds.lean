/-! A TEXT is fed -/
set_option maxRecDepth 8000 in
set_option maxHeartbeats 4000000 in
theorem h_append {σ μ : Mem} {a b c d e : Int} (hT : wfT μ) (hle : μ 1 1 + nba a b c d e ≤ 700) {Q : Option Value → Mem → Prop} {X : String → Mem → Prop} (K : Q (some (.int (iI (pba a b c d e μ 1 1)))) (put 20 σ (pba a b c d e μ))) : mt 276 7 0 0 mX10_append [.ref 0, .int (iI a), .int (iI b), .int (iI c), .int (iI d), .int (iI e)] Q X (put 20 σ μ) := by
  show go 276 7 0 0 mX10_append Q X 0 [.ref 0, .int (iI a), .int (iI b), .int (iI c), .int (iI d), .int (iI e), .null] [] _
  have h1 := nbk_b a 4
  have h2 := nbk_b b 4
  have h3 := nbk_b c 4
  have h4 := nbk_b d 4
  have h5 := nbk_b e 4
  have t0 := hT.1
  have t7 := hT.2.1
  have hTa := wfT_pbk (w := a) 4 _ hT
  have hTb := wfT_pbk (w := b) 4 _ hTa
  have hTc := wfT_pbk (w := c) 4 _ hTb
  have hTd := wfT_pbk (w := d) 4 _ hTc
  have hle2 : μ 1 1 + (nbk a 4 + nbk b 4 + nbk c 4 + nbk d 4 + nbk e 4) ≤ 700 := hle
  refine go_iload_n (y := mX10_append) (pc := 0) dX10_append_0 rfl rfl ?_
  refine go_callS1 (y := mX10_append) (pc := 1) (y' := mX8_bytesIn) (kc2 := 0) (ks2 := 0) dX10_append_1 ml_X10_85 ok_X8_bytesIn rfl (by decide) (Nat.le_of_ble_eq_true rfl) rfl (t_bytesIn ?_)
  refine go_iload_n (y := mX10_append) (pc := 4) dX10_append_4 rfl rfl ?_
  refine go_callS1 (y := mX10_append) (pc := 5) (y' := mX8_bytesIn) (kc2 := 0) (ks2 := 0) dX10_append_5 ml_X10_85 ok_X8_bytesIn rfl (by decide) (Nat.le_of_ble_eq_true rfl) rfl (t_bytesIn ?_)
  refine go_iadd (y := mX10_append) (pc := 8) dX10_append_8 ?_
  refine go_iload_n (y := mX10_append) (pc := 9) dX10_append_9 rfl rfl ?_
  refine go_callS1 (y := mX10_append) (pc := 10) (y' := mX8_bytesIn) (kc2 := 0) (ks2 := 0) dX10_append_10 ml_X10_85 ok_X8_bytesIn rfl (by decide) (Nat.le_of_ble_eq_true rfl) rfl (t_bytesIn ?_)
  refine go_iadd (y := mX10_append) (pc := 13) dX10_append_13 ?_
  refine go_iload (y := mX10_append) (pc := 14) dX10_append_14 rfl ?_
  refine go_callS1 (y := mX10_append) (pc := 16) (y' := mX8_bytesIn) (kc2 := 0) (ks2 := 0) dX10_append_16 ml_X10_85 ok_X8_bytesIn rfl (by decide) (Nat.le_of_ble_eq_true rfl) rfl (t_bytesIn ?_)
  refine go_iadd (y := mX10_append) (pc := 19) dX10_append_19 ?_
  refine go_iload (y := mX10_append) (pc := 20) dX10_append_20 rfl ?_
  refine go_callS1 (y := mX10_append) (pc := 22) (y' := mX8_bytesIn) (kc2 := 0) (ks2 := 0) dX10_append_22 ml_X10_85 ok_X8_bytesIn rfl (by decide) (Nat.le_of_ble_eq_true rfl) rfl (t_bytesIn ?_)
  refine go_iadd (y := mX10_append) (pc := 25) dX10_append_25 ?_
  refine go_istore (y := mX10_append) (pc := 26) dX10_append_26 (by decide) ?_
  refine go_aload_n (y := mX10_append) (pc := 28) dX10_append_28 rfl rfl ?_
  refine go_getR (y := mX10_append) (pc := 29) dX10_append_29 fl_X10_10 rfl rfl (by decide) ?_
  refine go_bget (y := mX10_append) (pc := 32) dX10_append_32 fl_X10_89 rfl rfl (by decide) (by decide) (fun r32 => ?_)
  refine go_iload (y := mX10_append) (pc := 35) dX10_append_35 rfl ?_
  refine go_iadd (y := mX10_append) (pc := 37) dX10_append_37 ?_
  refine go_sipush (y := mX10_append) (pc := 38) dX10_append_38 (by decide) ?_
  refine go_icmp_le (y := mX10_append) (pc := 41) (tgt := 54) dX10_append_41 (by decide) (by omega) (by omega) (fun h41 => ?_) (fun h41 => ?_)
  · skip
    refine go_aload_n (y := mX10_append) (pc := 54) dX10_append_54 rfl rfl ?_
    refine go_getR (y := mX10_append) (pc := 55) dX10_append_55 fl_X10_10 rfl rfl (by decide) ?_
    refine go_iload_n (y := mX10_append) (pc := 58) dX10_append_58 rfl rfl ?_
    refine go_callV1 (y := mX10_append) (pc := 59) (y' := mX8_putBytesOf) (kc2 := 0) (ks2 := 0) dX10_append_59 ml_X10_99 ok_X8_putBytesOf (show shp 1 = _ from rfl) ⟨_, _, rfl⟩ (by decide) rfl (by decide) (Nat.le_of_ble_eq_true rfl) rfl (t_putBytesOf (wfT_put hT) ?_)
    refine go_mem (pbk_put 4 _) ?_
    refine go_aload_n (y := mX10_append) (pc := 62) dX10_append_62 rfl rfl ?_
    refine go_getR (y := mX10_append) (pc := 63) dX10_append_63 fl_X10_10 rfl rfl (by decide) ?_
    refine go_iload_n (y := mX10_append) (pc := 66) dX10_append_66 rfl rfl ?_
    refine go_callV1 (y := mX10_append) (pc := 67) (y' := mX8_putBytesOf) (kc2 := 0) (ks2 := 0) dX10_append_67 ml_X10_99 ok_X8_putBytesOf (show shp 1 = _ from rfl) ⟨_, _, rfl⟩ (by decide) rfl (by decide) (Nat.le_of_ble_eq_true rfl) rfl (t_putBytesOf (wfT_put hTa) ?_)
    refine go_mem (pbk_put 4 _) ?_
    refine go_aload_n (y := mX10_append) (pc := 70) dX10_append_70 rfl rfl ?_
    refine go_getR (y := mX10_append) (pc := 71) dX10_append_71 fl_X10_10 rfl rfl (by decide) ?_
    refine go_iload_n (y := mX10_append) (pc := 74) dX10_append_74 rfl rfl ?_
    refine go_callV1 (y := mX10_append) (pc := 75) (y' := mX8_putBytesOf) (kc2 := 0) (ks2 := 0) dX10_append_75 ml_X10_99 ok_X8_putBytesOf (show shp 1 = _ from rfl) ⟨_, _, rfl⟩ (by decide) rfl (by decide) (Nat.le_of_ble_eq_true rfl) rfl (t_putBytesOf (wfT_put hTb) ?_)
    refine go_mem (pbk_put 4 _) ?_
    refine go_aload_n (y := mX10_append) (pc := 78) dX10_append_78 rfl rfl ?_
    refine go_getR (y := mX10_append) (pc := 79) dX10_append_79 fl_X10_10 rfl rfl (by decide) ?_
    refine go_iload (y := mX10_append) (pc := 82) dX10_append_82 rfl ?_
    refine go_callV1 (y := mX10_append) (pc := 84) (y' := mX8_putBytesOf) (kc2 := 0) (ks2 := 0) dX10_append_84 ml_X10_99 ok_X8_putBytesOf (show shp 1 = _ from rfl) ⟨_, _, rfl⟩ (by decide) rfl (by decide) (Nat.le_of_ble_eq_true rfl) rfl (t_putBytesOf (wfT_put hTc) ?_)
    refine go_mem (pbk_put 4 _) ?_
    refine go_aload_n (y := mX10_append) (pc := 87) dX10_append_87 rfl rfl ?_
    refine go_getR (y := mX10_append) (pc := 88) dX10_append_88 fl_X10_10 rfl rfl (by decide) ?_
    refine go_iload (y := mX10_append) (pc := 91) dX10_append_91 rfl ?_
    refine go_callV1 (y := mX10_append) (pc := 93) (y' := mX8_putBytesOf) (kc2 := 0) (ks2 := 0) dX10_append_93 ml_X10_99 ok_X8_putBytesOf (show shp 1 = _ from rfl) ⟨_, _, rfl⟩ (by decide) rfl (by decide) (Nat.le_of_ble_eq_true rfl) rfl (t_putBytesOf (wfT_put hTd) ?_)
    refine go_mem (pbk_put 4 _) ?_
    refine go_aload_n (y := mX10_append) (pc := 96) dX10_append_96 rfl rfl ?_
    refine go_getR (y := mX10_append) (pc := 97) dX10_append_97 fl_X10_10 rfl rfl (by decide) ?_
    refine go_bget (y := mX10_append) (pc := 100) dX10_append_100 fl_X10_89 rfl rfl (by decide) (by decide) (fun r100 => ?_)
    refine go_ireturn (y := mX10_append) (pc := 103) dX10_append_103 rfl ?_
    exact K
  · skip
    exact absurd hle2 (by omega)
theorem pba_put {σ μ : Mem} {a b c d e : Int} : pba a b c d e (put 20 σ μ) = put 20 σ (pba a b c d e μ) := by
  unfold pba
  rw [pbk_put, pbk_put, pbk_put, pbk_put, pbk_put]
theorem q_append {ν : Mem} {a b c d e : Int} (hT : wfT ν) (hle : ν 1 1 + nba a b c d e ≤ 700) {Q : Option Value → Mem → Prop} {X : String → Mem → Prop} (K : Q (some (.int (iI (pba a b c d e ν 1 1)))) (pba a b c d e ν)) : mt 276 7 0 0 mX10_append [.ref 0, .int (iI a), .int (iI b), .int (iI c), .int (iI d), .int (iI e)] Q X ν := by
  refine to_c (h_append hT hle ?_)
  rw [← pba_put, pvw]
  exact K
/-- the letter at place k of a text, 0 behind its end -/
def cf (L : Nat) (xs : Nat → Int32) (k : Nat) : Nat := if k < L then (chx xs k).toNat else 0
def w4 (L : Nat) (xs : Nat → Int32) (k : Nat) : Nat := ((cf L xs k * 256 + cf L xs (k + 1)) * 256 + cf L xs (k + 2)) * 256 + cf L xs (k + 3)
section Feed
variable {L : Nat} {xs : Nat → Int32}
theorem cf_b (hx : ∀ j, j < L → 1 ≤ chx xs j ∧ chx xs j < 128) (k : Nat) : cf L xs k < 128 := by
  unfold cf
  split
  · have := hx k (by assumption); omega
  · omega
theorem w4_b (hx : ∀ j, j < L → 1 ≤ chx xs j ∧ chx xs j < 128) (k : Nat) : w4 L xs k < 2147483648 := by
  have h0 := cf_b hx k
  have h1 := cf_b hx (k + 1)
  have h2 := cf_b hx (k + 2)
  have h3 := cf_b hx (k + 3)
  unfold w4
  omega
theorem shl_or {v c : Nat} (hv : v < 8388608) (hc : c < 256) : iI (v : Nat) <<< (iI 8 &&& 31) = iI ((v * 256 : Nat) : Int) ∧ iI ((v * 256 : Nat) : Int) ||| iI (c : Nat) = iI ((v * 256 + c : Nat) : Int) := by
  constructor
  · apply i32_ext
    rw [iI_natW (by omega)]
    show ((iI (v : Nat)).toBitVec <<< ((iI 8 &&& 31 : Int32).toBitVec.smod 32)).toNat = _
    rw [show ((iI 8 &&& 31 : Int32).toBitVec.smod 32) = 8#32 by decide +kernel]
    rw [BitVec.shiftLeft_eq', BitVec.toNat_shiftLeft, iI_natW (by omega), Nat.shiftLeft_eq]
    show v * 2 ^ 8 % 2 ^ 32 = v * 256
    omega
  · apply i32_ext
    rw [iI_natW (by omega)]
    show ((iI ((v * 256 : Nat) : Int)).toBitVec ||| (iI (c : Nat)).toBitVec).toNat = _
    rw [BitVec.toNat_or, iI_natW (by omega), iI_natW (by omega)]
    have h := Nat.shiftLeft_add_eq_or_of_lt (i := 8) (b := c) (show c < 2 ^ 8 from hc) v
    rw [Nat.shiftLeft_eq] at h
    exact h.symm
/-- the text as far as k letters -/
def TX (L : Nat) (xs : Nat → Int32) (k : Nat) (ν0 ν : Mem) : Prop := ν 1 1 = (min k L : Nat) ∧ (∀ j, j < min k L → ν 2 j = chx xs j) ∧ wfT ν ∧ ∀ a i, (a ≠ 2 ∧ (a ≠ 1 ∨ i ≠ 1)) → ν a i = ν0 a i
theorem TX_s (hL : L ≤ 600) (hx : ∀ j, j < L → 1 ≤ chx xs j ∧ chx xs j < 128) {k : Nat} {ν0 ν : Mem} (h : TX L xs k ν0 ν) : TX L xs (k + 1) ν0 (pt1 ν (cf L xs k : Nat)) := by
  obtain ⟨a, b, c, d⟩ := h
  have hc := cf_b hx k
  have hw := wfT_pt1 (μ := ν) (b := (cf L xs k : Nat)) ⟨by omega, by omega⟩ c
  by_cases g : k < L
  · have e : cf L xs k = (chx xs k).toNat := if_pos g
    have h1 := hx k g
    have ep : pt1 ν (cf L xs k : Nat) = wr (wr ν 2 k (chx xs k)) 1 1 (k + 1) := by
      unfold pt1
      rw [if_pos ⟨by omega, by omega⟩, a, show (((min k L : Nat) : Int)).toNat = k by omega, show ((min k L : Nat) : Int) = k by omega, e, show (((chx xs k).toNat : Nat) : Int) = chx xs k by omega]
      unfold sb
      rw [if_pos (by omega)]
    rw [ep] at hw ⊢
    refine ⟨by rw [wr_s]; omega, fun j hj => ?_, hw, fun r i hr => ?_⟩
    · rw [wr_na (by decide)]
      by_cases e : j = k
      · subst e; rw [wr_s]
      · rw [wr_ni e]; exact b j (by omega)
    · rw [wr_n (by omega), wr_na (by omega)]
      exact d r i hr
  · have e : cf L xs k = 0 := if_neg g
    have ep : pt1 ν (cf L xs k : Nat) = ν := by
      unfold pt1
      rw [if_neg (fun w => w.1 (by omega))]
    rw [ep]
    exact ⟨by rw [a]; omega, fun j hj => b j (by omega), c, d⟩
theorem pbk_w4 (hx : ∀ j, j < L → 1 ≤ chx xs j ∧ chx xs j < 128) (k : Nat) (ν : Mem) : pbk (w4 L xs k : Nat) 4 ν = pt1 (pt1 (pt1 (pt1 ν (cf L xs k : Nat)) (cf L xs (k + 1) : Nat)) (cf L xs (k + 2) : Nat)) (cf L xs (k + 3) : Nat) := by
  have h0 := cf_b hx k
  have h1 := cf_b hx (k + 1)
  have h2 := cf_b hx (k + 2)
  have h3 := cf_b hx (k + 3)
  have hb := w4_b hx k
  have e (s : Nat) : byt (w4 L xs k : Nat) s = w4 L xs k / 2 ^ s % 256 := by
    unfold byt
    rw [iI_natW hb]
  have e3 : byt (w4 L xs k : Nat) (8 * 3) = cf L xs k := by rw [e]; unfold w4; omega
  have e2 : byt (w4 L xs k : Nat) (8 * 2) = cf L xs (k + 1) := by rw [e]; unfold w4; omega
  have e1 : byt (w4 L xs k : Nat) (8 * 1) = cf L xs (k + 2) := by rw [e]; unfold w4; omega
  have e0 : byt (w4 L xs k : Nat) (8 * 0) = cf L xs (k + 3) := by rw [e]; unfold w4; omega
  rw [pbk, pbk, pbk, pbk, pbk, e3, e2, e1, e0]
theorem TX_4 (hL : L ≤ 600) (hx : ∀ j, j < L → 1 ≤ chx xs j ∧ chx xs j < 128) {k : Nat} {ν0 ν : Mem} (h : TX L xs k ν0 ν) : TX L xs (k + 4) ν0 (pbk (w4 L xs k : Nat) 4 ν) := by
  rw [pbk_w4 hx]
  exact TX_s hL hx (TX_s hL hx (TX_s hL hx (TX_s hL hx h)))
theorem TX_20 (hL : L ≤ 600) (hx : ∀ j, j < L → 1 ≤ chx xs j ∧ chx xs j < 128) {k : Nat} {ν0 ν : Mem} (h : TX L xs k ν0 ν) : TX L xs (k + 20) ν0 (pba (w4 L xs k : Nat) (w4 L xs (k + 4) : Nat) (w4 L xs (k + 8) : Nat) (w4 L xs (k + 12) : Nat) (w4 L xs (k + 16) : Nat) ν) :=
  TX_4 hL hx (TX_4 hL hx (TX_4 hL hx (TX_4 hL hx (TX_4 hL hx h))))
def w4f (L : Nat) (xs : Nat → Int32) (k : Nat) : Nat → Nat
  | 0 => 0
  | s + 1 => w4f L xs k s * 256 + cf L xs (k + s)
theorem w4f_4 {k : Nat} : w4f L xs k 4 = w4 L xs k := by
  unfold w4
  rw [w4f, w4f, w4f, w4f, w4f, Nat.add_zero]
  omega
theorem w4f_b (hx : ∀ j, j < L → 1 ≤ chx xs j ∧ chx xs j < 128) {k s : Nat} (hs : s ≤ 3) : w4f L xs k s < 8388608 := by
  have h0 := cf_b hx k
  have h1 := cf_b hx (k + 1)
  have h2 := cf_b hx (k + 2)
  rcases (show s = 0 ∨ s = 1 ∨ s = 2 ∨ s = 3 by omega) with e | e | e | e <;> subst e
  · rw [w4f]; omega
  · rw [w4f, w4f, Nat.add_zero]; omega
  · rw [w4f, w4f, w4f, Nat.add_zero]; omega
  · rw [w4f, w4f, w4f, w4f, Nat.add_zero]; omega
set_option maxRecDepth 8000 in
set_option maxHeartbeats 4000000 in
theorem l_four {μ : Mem} (hL : L ≤ 600) (hx : ∀ j, j < L → 1 ≤ chx xs j ∧ chx xs j < 128) {k : Nat} (hk : k < 1000) {Q : Option Value → Mem → Prop} {X : String → Mem → Prop} (K : Q (some (.int (iI (w4 L xs k : Nat)))) μ) : mt 276 4 0 0 (mL_four L xs) [.ref 6100, .int (iI (k : Nat))] Q X μ := by
  show go 276 4 0 0 (mL_four L xs) Q X 0 [.ref 6100, .int (iI (k : Nat)), .null, .null] [] _
  have hx0 : ∀ j, j < L → 0 ≤ chx xs j ∧ chx xs j < 128 := fun j hj => ⟨by have := hx j hj; omega, (hx j hj).2⟩
  have loop : ∀ (j s i v : Nat), s + j = 4 → i = k + s → v = w4f L xs k s → go 276 4 0 0 (mL_four L xs) Q X 4 [.ref 6100, .int (iI (k : Nat)), .int (iI (v : Nat)), .int (iI (i : Nat))] [] μ := by
    intro j
    induction j with
    | zero =>
      intro s i v hs hi hv
      have e : s = 4 := by omega
      subst e
      rw [w4f_4] at hv
      subst hv
      refine go_iload_n (y := (mL_four L xs)) (pc := 4) dL_four_4 rfl rfl ?_
      refine go_iload_n (y := (mL_four L xs)) (pc := 5) dL_four_5 rfl rfl ?_
      refine go_iconst (y := (mL_four L xs)) (pc := 6) dL_four_6 ?_
      refine go_iadd (y := (mL_four L xs)) (pc := 7) dL_four_7 ?_
      refine go_icmp_ge (y := (mL_four L xs)) (pc := 8) (tgt := 40) dL_four_8 (by decide) (by omega) (by omega) (fun h8 => ?_) (fun h8 => ?_)
      · skip
        refine go_iload_n (y := (mL_four L xs)) (pc := 40) dL_four_40 rfl rfl ?_
        refine go_ireturn (y := (mL_four L xs)) (pc := 41) dL_four_41 rfl ?_
        exact K
      · skip
        exact absurd h8 (by omega)
    | succ j ih =>
      intro s i v hs hi hv
      have hvb : v < 8388608 := by rw [hv]; exact w4f_b hx (by omega)
      have hcb := cf_b hx i
      have J32 : go 276 4 0 0 (mL_four L xs) Q X 32 [.ref 6100, .int (iI (k : Nat)), .int (iI (v : Nat)), .int (iI (i : Nat))] [.int (iI (cf L xs i : Nat)), .int (iI (v * 256 : Nat))] μ := by
        refine go_ior (y := (mL_four L xs)) (pc := 32) dL_four_32 (v := ((v * 256 + cf L xs i : Nat) : Int)) ((shl_or hvb (by omega)).2) ?_
        refine go_istore_n (y := (mL_four L xs)) (pc := 33) dL_four_33 rfl (Nat.le_of_ble_eq_true rfl) ?_
        refine go_iinc (y := (mL_four L xs)) (pc := 34) dL_four_34 rfl (Nat.le_of_ble_eq_true rfl) ?_
        refine go_goto (y := (mL_four L xs)) (pc := 37) (tgt := 4) dL_four_37 (by decide) ?_
        exact ih (s + 1) (i + 1) _ (by omega) (by omega) (by rw [w4f, ← hv, ← hi])
      refine go_iload_n (y := (mL_four L xs)) (pc := 4) dL_four_4 rfl rfl ?_
      refine go_iload_n (y := (mL_four L xs)) (pc := 5) dL_four_5 rfl rfl ?_
      refine go_iconst (y := (mL_four L xs)) (pc := 6) dL_four_6 ?_
      refine go_iadd (y := (mL_four L xs)) (pc := 7) dL_four_7 ?_
      refine go_icmp_ge (y := (mL_four L xs)) (pc := 8) (tgt := 40) dL_four_8 (by decide) (by omega) (by omega) (fun h8 => ?_) (fun h8 => ?_)
      · skip
        exact absurd h8 (by omega)
      · skip
        refine go_iload_n (y := (mL_four L xs)) (pc := 11) dL_four_11 rfl rfl ?_
        refine go_bipush (y := (mL_four L xs)) (pc := 12) dL_four_12 (by decide) ?_
        refine go_ishl (y := (mL_four L xs)) (pc := 14) dL_four_14 (v := ((v * 256 : Nat) : Int)) ((shl_or (c := 0) hvb (by omega)).1) ?_
        refine go_iload_n (y := (mL_four L xs)) (pc := 15) dL_four_15 rfl rfl ?_
        refine go_aload_n (y := (mL_four L xs)) (pc := 16) dL_four_16 rfl rfl ?_
        refine go_callT (y := (mL_four L xs)) (pc := 17) (y' := wt mJ0_length_8abf5 L xs) (as := []) (z' := 276) (d' := 1) (kc' := 0) (ks' := 0) (kc2 := 0) (ks2 := 0) dL_four_17 rfl ml_L_15 (okV_t ok_J0_length_8abf5) rfl rfl rfl rfl (Nat.le_of_ble_eq_true rfl) (by intro v hv; cases hv) (Nat.le_of_ble_eq_true rfl) (Nat.le_refl _) (by decide) (by decide) (by decide) rfl (tt_length ?_)
        refine go_icmp_ge (y := (mL_four L xs)) (pc := 20) (tgt := 31) dL_four_20 (by decide) (by omega) (by omega) (fun h20 => ?_) (fun h20 => ?_)
        · skip
          have e0 : cf L xs i = 0 := if_neg (by omega)
          rw [e0] at J32
          refine go_iconst (y := (mL_four L xs)) (pc := 31) dL_four_31 ?_
          exact J32
        · skip
          refine go_aload_n (y := (mL_four L xs)) (pc := 23) dL_four_23 rfl rfl ?_
          refine go_iload_n (y := (mL_four L xs)) (pc := 24) dL_four_24 rfl rfl ?_
          refine go_callT (y := (mL_four L xs)) (pc := 25) (y' := wt mJ0_charAt_5068e L xs) (as := [.int (iI (i : Nat))]) (z' := 276) (d' := 3) (kc' := 0) (ks' := 0) (kc2 := 0) (ks2 := 0) dL_four_25 rfl ml_L_21 (okV_t ok_J0_charAt_5068e) rfl rfl rfl rfl (Nat.le_of_ble_eq_true rfl) (by intro v hv; rw [List.mem_singleton.mp hv]; rfl) (Nat.le_of_ble_eq_true rfl) (Nat.le_refl _) (by decide) (by decide) (by decide) rfl (tt_charAt (by omega) hx0 ?_)
          refine go_top (b := ((cf L xs i : Nat) : Int)) ((by have := hx i (by omega); unfold cf; rw [if_pos (by omega)]; omega)) (fun t25 => ?_)
          refine go_goto (y := (mL_four L xs)) (pc := 28) (tgt := 32) dL_four_28 (by decide) ?_
          exact J32
  refine go_iconst (y := (mL_four L xs)) (pc := 0) dL_four_0 ?_
  refine go_istore_n (y := (mL_four L xs)) (pc := 1) dL_four_1 rfl (Nat.le_of_ble_eq_true rfl) ?_
  refine go_iload_n (y := (mL_four L xs)) (pc := 2) dL_four_2 rfl rfl ?_
  refine go_istore_n (y := (mL_four L xs)) (pc := 3) dL_four_3 rfl (Nat.le_of_ble_eq_true rfl) ?_
  exact loop 4 0 k 0 (by omega) (by omega) rfl
set_option maxRecDepth 8000 in
set_option maxHeartbeats 4000000 in
theorem l_feeds {ν : Mem} (hL : L ≤ 600) (hx : ∀ j, j < L → 1 ≤ chx xs j ∧ chx xs j < 128) (hT : wfT ν) (h0 : ν 1 1 = 0) {Q : Option Value → Mem → Prop} {X : String → Mem → Prop} (K : ∀ ν', TX L xs L ν ν' → Q (some (.int (iI 1))) ν') : mt 276 8 0 0 (mL_feeds L xs) [.ref 0, .ref 6100] Q X ν := by
  show go 276 8 0 0 (mL_feeds L xs) Q X 0 [.ref 0, .ref 6100, .null, .null] [] _
  have t0 : TX L xs 0 ν ν := ⟨by rw [h0]; omega, fun j hj => absurd hj (by omega), hT, fun _ _ _ => rfl⟩
  have J59 : ∀ (μ : Mem) (k : Nat), L ≤ k → TX L xs k ν μ → go 276 8 0 0 (mL_feeds L xs) Q X 59 [.ref 0, .ref 6100, .int (iI (L : Nat)), .int (iI (k : Nat))] [] μ := by
    intro μ k hk hX
    refine go_iload_n (y := (mL_feeds L xs)) (pc := 59) dL_feeds_59 rfl rfl ?_
    refine go_aload_n (y := (mL_feeds L xs)) (pc := 60) dL_feeds_60 rfl rfl ?_
    refine go_callT (y := (mL_feeds L xs)) (pc := 61) (y' := wt mJ0_length_8abf5 L xs) (as := []) (z' := 276) (d' := 1) (kc' := 0) (ks' := 0) (kc2 := 0) (ks2 := 0) dL_feeds_61 rfl ml_L_15 (okV_t ok_J0_length_8abf5) rfl rfl rfl rfl (Nat.le_of_ble_eq_true rfl) (by intro v hv; cases hv) (Nat.le_of_ble_eq_true rfl) (Nat.le_refl _) (by decide) (by decide) (by decide) rfl (tt_length ?_)
    refine go_icmp_ne (y := (mL_feeds L xs)) (pc := 64) (tgt := 71) dL_feeds_64 (by decide) (by omega) (by omega) (fun h64 => ?_) (fun h64 => ?_)
    · skip
      exact absurd rfl h64
    · skip
      refine go_iconst (y := (mL_feeds L xs)) (pc := 67) dL_feeds_67 ?_
      refine go_goto (y := (mL_feeds L xs)) (pc := 68) (tgt := 72) dL_feeds_68 (by decide) ?_
      refine go_zreturn (y := (mL_feeds L xs)) (pc := 72) dL_feeds_72 rfl (by omega) ?_
      refine K μ ?_
      obtain ⟨a, b, c, d⟩ := hX
      exact ⟨by rw [a]; omega, fun j hj => b j (by omega), c, d⟩
  have loop : ∀ (j k : Nat) (μ : Mem), L ≤ k + 20 * j → k < 700 → TX L xs k ν μ → go 276 8 0 0 (mL_feeds L xs) Q X 4 [.ref 0, .ref 6100, .int (iI (min k L : Nat)), .int (iI (k : Nat))] [] μ := by
    intro j
    induction j with
    | zero =>
      intro k μ hk hk7 hX
      refine go_iload_n (y := (mL_feeds L xs)) (pc := 4) dL_feeds_4 rfl rfl ?_
      refine go_aload_n (y := (mL_feeds L xs)) (pc := 5) dL_feeds_5 rfl rfl ?_
      refine go_callT (y := (mL_feeds L xs)) (pc := 6) (y' := wt mJ0_length_8abf5 L xs) (as := []) (z' := 276) (d' := 1) (kc' := 0) (ks' := 0) (kc2 := 0) (ks2 := 0) dL_feeds_6 rfl ml_L_15 (okV_t ok_J0_length_8abf5) rfl rfl rfl rfl (Nat.le_of_ble_eq_true rfl) (by intro v hv; cases hv) (Nat.le_of_ble_eq_true rfl) (Nat.le_refl _) (by decide) (by decide) (by decide) rfl (tt_length ?_)
      refine go_icmp_ge (y := (mL_feeds L xs)) (pc := 9) (tgt := 59) dL_feeds_9 (by decide) (by omega) (by omega) (fun h9 => ?_) (fun h9 => ?_)
      · skip
        have e : min k L = L := by omega
        rw [e]
        exact J59 μ k (by omega) hX
      · skip
        exact absurd h9 (by omega)
    | succ j ih =>
      intro k μ hk hk7 hX
      have hX2 := TX_20 hL hx hX
      have hb0 := w4_b hx k
      have hb1 := w4_b hx (k + 4)
      have hb2 := w4_b hx (k + 8)
      have hb3 := w4_b hx (k + 12)
      have hb4 := w4_b hx (k + 16)
      have n0 := nbk_b (w4 L xs k : Nat) 4
      have n1 := nbk_b (w4 L xs (k + 4) : Nat) 4
      have n2 := nbk_b (w4 L xs (k + 8) : Nat) 4
      have n3 := nbk_b (w4 L xs (k + 12) : Nat) 4
      have n4 := nbk_b (w4 L xs (k + 16) : Nat) 4
      have hX1 := hX.1
      refine go_iload_n (y := (mL_feeds L xs)) (pc := 4) dL_feeds_4 rfl rfl ?_
      refine go_aload_n (y := (mL_feeds L xs)) (pc := 5) dL_feeds_5 rfl rfl ?_
      refine go_callT (y := (mL_feeds L xs)) (pc := 6) (y' := wt mJ0_length_8abf5 L xs) (as := []) (z' := 276) (d' := 1) (kc' := 0) (ks' := 0) (kc2 := 0) (ks2 := 0) dL_feeds_6 rfl ml_L_15 (okV_t ok_J0_length_8abf5) rfl rfl rfl rfl (Nat.le_of_ble_eq_true rfl) (by intro v hv; cases hv) (Nat.le_of_ble_eq_true rfl) (Nat.le_refl _) (by decide) (by decide) (by decide) rfl (tt_length ?_)
      refine go_icmp_ge (y := (mL_feeds L xs)) (pc := 9) (tgt := 59) dL_feeds_9 (by decide) (by omega) (by omega) (fun h9 => ?_) (fun h9 => ?_)
      · skip
        have e : min k L = L := by omega
        rw [e]
        exact J59 μ k (by omega) hX
      · skip
        refine go_aload_n (y := (mL_feeds L xs)) (pc := 12) dL_feeds_12 rfl rfl ?_
        refine go_aload_n (y := (mL_feeds L xs)) (pc := 13) dL_feeds_13 rfl rfl ?_
        refine go_iload_n (y := (mL_feeds L xs)) (pc := 14) dL_feeds_14 rfl rfl ?_
        refine go_callSs2 (y := (mL_feeds L xs)) (pc := 15) (y' := (mL_four L xs)) (kc2 := 0) (ks2 := 0) dL_feeds_15 ml_L_25 rfl ok_L_four ⟨rfl, rfl⟩ ⟨Nat.le_of_ble_eq_true rfl, by decide, by decide, by decide, by decide⟩ (Nat.le_of_ble_eq_true rfl) rfl (l_four hL hx (k := k) (by omega) ?_)
        refine go_aload_n (y := (mL_feeds L xs)) (pc := 18) dL_feeds_18 rfl rfl ?_
        refine go_iload_n (y := (mL_feeds L xs)) (pc := 19) dL_feeds_19 rfl rfl ?_
        refine go_iconst (y := (mL_feeds L xs)) (pc := 20) dL_feeds_20 ?_
        refine go_iadd (y := (mL_feeds L xs)) (pc := 21) dL_feeds_21 ?_
        refine go_callSs2 (y := (mL_feeds L xs)) (pc := 22) (y' := (mL_four L xs)) (kc2 := 0) (ks2 := 0) dL_feeds_22 ml_L_25 rfl ok_L_four ⟨rfl, rfl⟩ ⟨Nat.le_of_ble_eq_true rfl, by decide, by decide, by decide, by decide⟩ (Nat.le_of_ble_eq_true rfl) rfl (l_four hL hx (k := (k + 4)) (by omega) ?_)
        refine go_aload_n (y := (mL_feeds L xs)) (pc := 25) dL_feeds_25 rfl rfl ?_
        refine go_iload_n (y := (mL_feeds L xs)) (pc := 26) dL_feeds_26 rfl rfl ?_
        refine go_bipush (y := (mL_feeds L xs)) (pc := 27) dL_feeds_27 (by decide) ?_
        refine go_iadd (y := (mL_feeds L xs)) (pc := 29) dL_feeds_29 ?_
        refine go_callSs2 (y := (mL_feeds L xs)) (pc := 30) (y' := (mL_four L xs)) (kc2 := 0) (ks2 := 0) dL_feeds_30 ml_L_25 rfl ok_L_four ⟨rfl, rfl⟩ ⟨Nat.le_of_ble_eq_true rfl, by decide, by decide, by decide, by decide⟩ (Nat.le_of_ble_eq_true rfl) rfl (l_four hL hx (k := (k + 8)) (by omega) ?_)
        refine go_aload_n (y := (mL_feeds L xs)) (pc := 33) dL_feeds_33 rfl rfl ?_
        refine go_iload_n (y := (mL_feeds L xs)) (pc := 34) dL_feeds_34 rfl rfl ?_
        refine go_bipush (y := (mL_feeds L xs)) (pc := 35) dL_feeds_35 (by decide) ?_
        refine go_iadd (y := (mL_feeds L xs)) (pc := 37) dL_feeds_37 ?_
        refine go_callSs2 (y := (mL_feeds L xs)) (pc := 38) (y' := (mL_four L xs)) (kc2 := 0) (ks2 := 0) dL_feeds_38 ml_L_25 rfl ok_L_four ⟨rfl, rfl⟩ ⟨Nat.le_of_ble_eq_true rfl, by decide, by decide, by decide, by decide⟩ (Nat.le_of_ble_eq_true rfl) rfl (l_four hL hx (k := (k + 12)) (by omega) ?_)
        refine go_aload_n (y := (mL_feeds L xs)) (pc := 41) dL_feeds_41 rfl rfl ?_
        refine go_iload_n (y := (mL_feeds L xs)) (pc := 42) dL_feeds_42 rfl rfl ?_
        refine go_bipush (y := (mL_feeds L xs)) (pc := 43) dL_feeds_43 (by decide) ?_
        refine go_iadd (y := (mL_feeds L xs)) (pc := 45) dL_feeds_45 ?_
        refine go_callSs2 (y := (mL_feeds L xs)) (pc := 46) (y' := (mL_four L xs)) (kc2 := 0) (ks2 := 0) dL_feeds_46 ml_L_25 rfl ok_L_four ⟨rfl, rfl⟩ ⟨Nat.le_of_ble_eq_true rfl, by decide, by decide, by decide, by decide⟩ (Nat.le_of_ble_eq_true rfl) rfl (l_four hL hx (k := (k + 16)) (by omega) ?_)
        refine go_callV5 (y := (mL_feeds L xs)) (pc := 49) (y' := mX10_append) (kc2 := 0) (ks2 := 0) dL_feeds_49 ml_L_29 ok_X10_append (show shp 0 = _ from rfl) ⟨_, _, rfl⟩ (by decide) ⟨rfl, rfl, rfl, rfl, rfl⟩ (by decide) (Nat.le_of_ble_eq_true rfl) rfl (q_append hX.2.2.1 (by unfold nba; omega) ?_)
        refine go_top (b := ((min (k + 20) L : Nat) : Int)) (hX2.1) (fun t49 => ?_)
        refine go_istore_n (y := (mL_feeds L xs)) (pc := 52) dL_feeds_52 rfl (Nat.le_of_ble_eq_true rfl) ?_
        refine go_iinc (y := (mL_feeds L xs)) (pc := 53) dL_feeds_53 rfl (Nat.le_of_ble_eq_true rfl) ?_
        refine go_goto (y := (mL_feeds L xs)) (pc := 56) (tgt := 4) dL_feeds_56 (by decide) ?_
        exact ih (k + 20) _ (by omega) (by omega) hX2
  refine go_iconst (y := (mL_feeds L xs)) (pc := 0) dL_feeds_0 ?_
  refine go_istore_n (y := (mL_feeds L xs)) (pc := 1) dL_feeds_1 rfl (Nat.le_of_ble_eq_true rfl) ?_
  refine go_iconst (y := (mL_feeds L xs)) (pc := 2) dL_feeds_2 ?_
  refine go_istore_n (y := (mL_feeds L xs)) (pc := 3) dL_feeds_3 rfl (Nat.le_of_ble_eq_true rfl) ?_
  have e := loop 30 0 ν (by omega) (by omega) t0
  rw [show min 0 L = 0 by omega] at e
  exact e
end Feed
