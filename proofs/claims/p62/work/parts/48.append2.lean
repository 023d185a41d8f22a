/-! APPEND -/
def pba (a b c d e : Int) (μ : Mem) : Mem := pbk e 4 (pbk d 4 (pbk c 4 (pbk b 4 (pbk a 4 μ))))
def fda (a b c d e : Int) (σ : Mem) : Mem := fdk e 4 (fdk d 4 (fdk c 4 (fdk b 4 (fdk a 4 σ))))
def nba (a b c d e : Int) : Int := nbk a 4 + nbk b 4 + nbk c 4 + nbk d 4 + nbk e 4
theorem fd1_o {σ : Mem} {b : Int} {r i : Nat} (h : r ≠ 7 ∧ (r ≠ 0 ∨ i ≠ 9)) : fd1 σ b r i = σ r i := by
  unfold fd1
  by_cases g : b = 0
  · rw [if_pos g]
  · rw [if_neg g, wr_n (by omega)]
    split
    · rw [wr_na h.1]
    · rfl
theorem fdk_o {w : Int} {r i : Nat} (h : r ≠ 7 ∧ (r ≠ 0 ∨ i ≠ 9)) : ∀ (j : Nat) (σ : Mem), fdk w j σ r i = σ r i
  | 0, _ => rfl
  | j + 1, σ => by rw [fdk, fdk_o h j, fd1_o h]
theorem fdk_9 {w : Int} : ∀ (j : Nat) (σ : Mem), fdk w j σ 0 9 = σ 0 9 + nbk w j
  | 0, σ => by rw [fdk, nbk, Int.add_zero]
  | j + 1, σ => by
    rw [fdk, fdk_9 j, nbk]
    by_cases g : byt w (8 * j) = 0
    · rw [if_pos g, show fd1 σ (byt w (8 * j) : Nat) = σ from if_pos (by omega)]
      omega
    · rw [if_neg g, fd1_9 (by omega)]
      omega
set_option maxRecDepth 8000 in
set_option maxHeartbeats 4000000 in
theorem g_append {σ μ : Mem} {a b c d e : Int} (hT : wfT μ) {Q : Option Value → Mem → Prop} {X : String → Mem → Prop} (K : μ 1 1 + nba a b c d e ≤ 700 → Q (some (.int (iI (pba a b c d e μ 1 1)))) (put 20 σ (pba a b c d e μ))) (K2 : 700 < μ 1 1 + nba a b c d e → X "java/lang/IllegalStateException" (put 20 σ μ)) : mt 276 7 1 6 mX10_append [.ref 0, .int (iI a), .int (iI b), .int (iI c), .int (iI d), .int (iI e)] Q X (put 20 σ μ) := by
  show go 276 7 1 6 mX10_append Q X 0 [.ref 0, .int (iI a), .int (iI b), .int (iI c), .int (iI d), .int (iI e), .null] [] _
  have h1 := nbk_b a 4
  have h2 := nbk_b b 4
  have h3 := nbk_b c 4
  have h4 := nbk_b d 4
  have h5 := nbk_b e 4
  have t0 := hT.1
  have t7 := hT.2.1
  have hTa := wfT_pbk (w := a) 4 _ hT
  have hTb := wfT_pbk (w := b) 4 _ hTa
  have hTc := wfT_pbk (w := c) 4 _ hTb
  have hTd := wfT_pbk (w := d) 4 _ hTc
  refine go_iload_n (y := mX10_append) (pc := 0) dX10_append_0 rfl rfl ?_
  refine go_callS1 (y := mX10_append) (pc := 1) (y' := mX8_bytesIn) (kc2 := 1) (ks2 := 6) dX10_append_1 ml_X10_85 ok_X8_bytesIn rfl (by decide) (Nat.le_of_ble_eq_true rfl) rfl (t_bytesIn ?_)
  refine go_iload_n (y := mX10_append) (pc := 4) dX10_append_4 rfl rfl ?_
  refine go_callS1 (y := mX10_append) (pc := 5) (y' := mX8_bytesIn) (kc2 := 1) (ks2 := 6) dX10_append_5 ml_X10_85 ok_X8_bytesIn rfl (by decide) (Nat.le_of_ble_eq_true rfl) rfl (t_bytesIn ?_)
  refine go_iadd (y := mX10_append) (pc := 8) dX10_append_8 ?_
  refine go_iload_n (y := mX10_append) (pc := 9) dX10_append_9 rfl rfl ?_
  refine go_callS1 (y := mX10_append) (pc := 10) (y' := mX8_bytesIn) (kc2 := 1) (ks2 := 6) dX10_append_10 ml_X10_85 ok_X8_bytesIn rfl (by decide) (Nat.le_of_ble_eq_true rfl) rfl (t_bytesIn ?_)
  refine go_iadd (y := mX10_append) (pc := 13) dX10_append_13 ?_
  refine go_iload (y := mX10_append) (pc := 14) dX10_append_14 rfl ?_
  refine go_callS1 (y := mX10_append) (pc := 16) (y' := mX8_bytesIn) (kc2 := 1) (ks2 := 6) dX10_append_16 ml_X10_85 ok_X8_bytesIn rfl (by decide) (Nat.le_of_ble_eq_true rfl) rfl (t_bytesIn ?_)
  refine go_iadd (y := mX10_append) (pc := 19) dX10_append_19 ?_
  refine go_iload (y := mX10_append) (pc := 20) dX10_append_20 rfl ?_
  refine go_callS1 (y := mX10_append) (pc := 22) (y' := mX8_bytesIn) (kc2 := 1) (ks2 := 6) dX10_append_22 ml_X10_85 ok_X8_bytesIn rfl (by decide) (Nat.le_of_ble_eq_true rfl) rfl (t_bytesIn ?_)
  refine go_iadd (y := mX10_append) (pc := 25) dX10_append_25 ?_
  refine go_istore (y := mX10_append) (pc := 26) dX10_append_26 (by decide) ?_
  refine go_aload_n (y := mX10_append) (pc := 28) dX10_append_28 rfl rfl ?_
  refine go_getR (y := mX10_append) (pc := 29) dX10_append_29 fl_X10_10 rfl rfl (by decide) ?_
  refine go_bget (y := mX10_append) (pc := 32) dX10_append_32 fl_X10_89 rfl rfl (by decide) (by decide) (fun r32 => ?_)
  refine go_iload (y := mX10_append) (pc := 35) dX10_append_35 rfl ?_
  refine go_iadd (y := mX10_append) (pc := 37) dX10_append_37 ?_
  refine go_sipush (y := mX10_append) (pc := 38) dX10_append_38 (by decide) ?_
  refine go_icmp_le (y := mX10_append) (pc := 41) (tgt := 54) dX10_append_41 (by decide) (by omega) (by omega) (fun h41 => ?_) (fun h41 => ?_)
  · skip
    refine go_aload_n (y := mX10_append) (pc := 54) dX10_append_54 rfl rfl ?_
    refine go_getR (y := mX10_append) (pc := 55) dX10_append_55 fl_X10_10 rfl rfl (by decide) ?_
    refine go_iload_n (y := mX10_append) (pc := 58) dX10_append_58 rfl rfl ?_
    refine go_callV1 (y := mX10_append) (pc := 59) (y' := mX8_putBytesOf) (kc2 := 0) (ks2 := 0) dX10_append_59 ml_X10_99 ok_X8_putBytesOf (show shp 1 = _ from rfl) ⟨_, _, rfl⟩ (by decide) rfl (by decide) (Nat.le_of_ble_eq_true rfl) rfl (t_putBytesOf (wfT_put hT) ?_)
    refine go_mem (pbk_put 4 _) ?_
    refine go_aload_n (y := mX10_append) (pc := 62) dX10_append_62 rfl rfl ?_
    refine go_getR (y := mX10_append) (pc := 63) dX10_append_63 fl_X10_10 rfl rfl (by decide) ?_
    refine go_iload_n (y := mX10_append) (pc := 66) dX10_append_66 rfl rfl ?_
    refine go_callV1 (y := mX10_append) (pc := 67) (y' := mX8_putBytesOf) (kc2 := 0) (ks2 := 0) dX10_append_67 ml_X10_99 ok_X8_putBytesOf (show shp 1 = _ from rfl) ⟨_, _, rfl⟩ (by decide) rfl (by decide) (Nat.le_of_ble_eq_true rfl) rfl (t_putBytesOf (wfT_put hTa) ?_)
    refine go_mem (pbk_put 4 _) ?_
    refine go_aload_n (y := mX10_append) (pc := 70) dX10_append_70 rfl rfl ?_
    refine go_getR (y := mX10_append) (pc := 71) dX10_append_71 fl_X10_10 rfl rfl (by decide) ?_
    refine go_iload_n (y := mX10_append) (pc := 74) dX10_append_74 rfl rfl ?_
    refine go_callV1 (y := mX10_append) (pc := 75) (y' := mX8_putBytesOf) (kc2 := 0) (ks2 := 0) dX10_append_75 ml_X10_99 ok_X8_putBytesOf (show shp 1 = _ from rfl) ⟨_, _, rfl⟩ (by decide) rfl (by decide) (Nat.le_of_ble_eq_true rfl) rfl (t_putBytesOf (wfT_put hTb) ?_)
    refine go_mem (pbk_put 4 _) ?_
    refine go_aload_n (y := mX10_append) (pc := 78) dX10_append_78 rfl rfl ?_
    refine go_getR (y := mX10_append) (pc := 79) dX10_append_79 fl_X10_10 rfl rfl (by decide) ?_
    refine go_iload (y := mX10_append) (pc := 82) dX10_append_82 rfl ?_
    refine go_callV1 (y := mX10_append) (pc := 84) (y' := mX8_putBytesOf) (kc2 := 0) (ks2 := 0) dX10_append_84 ml_X10_99 ok_X8_putBytesOf (show shp 1 = _ from rfl) ⟨_, _, rfl⟩ (by decide) rfl (by decide) (Nat.le_of_ble_eq_true rfl) rfl (t_putBytesOf (wfT_put hTc) ?_)
    refine go_mem (pbk_put 4 _) ?_
    refine go_aload_n (y := mX10_append) (pc := 87) dX10_append_87 rfl rfl ?_
    refine go_getR (y := mX10_append) (pc := 88) dX10_append_88 fl_X10_10 rfl rfl (by decide) ?_
    refine go_iload (y := mX10_append) (pc := 91) dX10_append_91 rfl ?_
    refine go_callV1 (y := mX10_append) (pc := 93) (y' := mX8_putBytesOf) (kc2 := 0) (ks2 := 0) dX10_append_93 ml_X10_99 ok_X8_putBytesOf (show shp 1 = _ from rfl) ⟨_, _, rfl⟩ (by decide) rfl (by decide) (Nat.le_of_ble_eq_true rfl) rfl (t_putBytesOf (wfT_put hTd) ?_)
    refine go_mem (pbk_put 4 _) ?_
    refine go_aload_n (y := mX10_append) (pc := 96) dX10_append_96 rfl rfl ?_
    refine go_getR (y := mX10_append) (pc := 97) dX10_append_97 fl_X10_10 rfl rfl (by decide) ?_
    refine go_bget (y := mX10_append) (pc := 100) dX10_append_100 fl_X10_89 rfl rfl (by decide) (by decide) (fun r100 => ?_)
    refine go_ireturn (y := mX10_append) (pc := 103) dX10_append_103 rfl ?_
    exact K (by unfold nba; omega)
  · skip
    refine go_throw (y := mX10_append) (pc := 44) (i := 18) th_S rfl dX10_append_44 dX10_append_47 dX10_append_48 dX10_append_50 dX10_append_53 (by decide) (Nat.le_of_ble_eq_true rfl) rfl ?_
    exact K2 (by unfold nba; omega)
section MApp
variable {σ μ : Mem} {ν : Nat → Int}
end MApp
