/-! APPEND -/
def pba (a b c d e : Int) (μ : Mem) : Mem := pbk e 4 (pbk d 4 (pbk c 4 (pbk b 4 (pbk a 4 μ))))
def fda (a b c d e : Int) (σ : Mem) : Mem := fdk e 4 (fdk d 4 (fdk c 4 (fdk b 4 (fdk a 4 σ))))
def nba (a b c d e : Int) : Int := nbk a 4 + nbk b 4 + nbk c 4 + nbk d 4 + nbk e 4
theorem fd1_o {σ : Mem} {b : Int} {r i : Nat} (h : r ≠ 7 ∧ (r ≠ 0 ∨ i ≠ 9)) : fd1 σ b r i = σ r i := by
  unfold fd1
  by_cases g : b = 0
  · rw [if_pos g]
  · rw [if_neg g, wr_n (by omega)]
    split
    · rw [wr_na h.1]
    · rfl
theorem fdk_o {w : Int} {r i : Nat} (h : r ≠ 7 ∧ (r ≠ 0 ∨ i ≠ 9)) : ∀ (j : Nat) (σ : Mem), fdk w j σ r i = σ r i
  | 0, _ => rfl
  | j + 1, σ => by rw [fdk, fdk_o h j, fd1_o h]
theorem fdk_9 {w : Int} : ∀ (j : Nat) (σ : Mem), fdk w j σ 0 9 = σ 0 9 + nbk w j
  | 0, σ => by rw [fdk, nbk, Int.add_zero]
  | j + 1, σ => by
    rw [fdk, fdk_9 j, nbk]
    by_cases g : byt w (8 * j) = 0
    · rw [if_pos g, show fd1 σ (byt w (8 * j) : Nat) = σ from if_pos (by omega)]
      omega
    · rw [if_neg g, fd1_9 (by omega)]
      omega
set_option maxRecDepth 8000 in
set_option maxHeartbeats 4000000 in
theorem g_append {σ μ : Mem} {a b c d e : Int} (hT : wfT μ) {Q : Option Value → Mem → Prop} {X : String → Mem → Prop} (K : μ 1 1 + nba a b c d e ≤ 700 → Q (some (.int (iI (pba a b c d e μ 1 1)))) (put 20 σ (pba a b c d e μ))) (K2 : 700 < μ 1 1 + nba a b c d e → X "java/lang/IllegalStateException" (put 20 σ μ)) : mt 276 7 1 6 mX10_append [.ref 0, .int (iI a), .int (iI b), .int (iI c), .int (iI d), .int (iI e)] Q X (put 20 σ μ) := by
  show go 276 7 1 6 mX10_append Q X 0 [.ref 0, .int (iI a), .int (iI b), .int (iI c), .int (iI d), .int (iI e), .null] [] _
  have h1 := nbk_b a 4
  have h2 := nbk_b b 4
  have h3 := nbk_b c 4
  have h4 := nbk_b d 4
  have h5 := nbk_b e 4
  have t0 := hT.1
  have t7 := hT.2.1
  have hTa := wfT_pbk (w := a) 4 _ hT
  have hTb := wfT_pbk (w := b) 4 _ hTa
  have hTc := wfT_pbk (w := c) 4 _ hTb
  have hTd := wfT_pbk (w := d) 4 _ hTc
  refine go_iload_n (y := mX10_append) (pc := 0) dX10_append_0 rfl rfl ?_
  refine go_callS1 (y := mX10_append) (pc := 1) (y' := mX8_bytesIn) (kc2 := 1) (ks2 := 6) dX10_append_1 ml_X10_85 ok_X8_bytesIn rfl (by decide) (Nat.le_of_ble_eq_true rfl) rfl (t_bytesIn ?_)
  refine go_iload_n (y := mX10_append) (pc := 4) dX10_append_4 rfl rfl ?_
  refine go_callS1 (y := mX10_append) (pc := 5) (y' := mX8_bytesIn) (kc2 := 1) (ks2 := 6) dX10_append_5 ml_X10_85 ok_X8_bytesIn rfl (by decide) (Nat.le_of_ble_eq_true rfl) rfl (t_bytesIn ?_)
  refine go_iadd (y := mX10_append) (pc := 8) dX10_append_8 ?_
  refine go_iload_n (y := mX10_append) (pc := 9) dX10_append_9 rfl rfl ?_
  refine go_callS1 (y := mX10_append) (pc := 10) (y' := mX8_bytesIn) (kc2 := 1) (ks2 := 6) dX10_append_10 ml_X10_85 ok_X8_bytesIn rfl (by decide) (Nat.le_of_ble_eq_true rfl) rfl (t_bytesIn ?_)
  refine go_iadd (y := mX10_append) (pc := 13) dX10_append_13 ?_
  refine go_iload (y := mX10_append) (pc := 14) dX10_append_14 rfl ?_
  refine go_callS1 (y := mX10_append) (pc := 16) (y' := mX8_bytesIn) (kc2 := 1) (ks2 := 6) dX10_append_16 ml_X10_85 ok_X8_bytesIn rfl (by decide) (Nat.le_of_ble_eq_true rfl) rfl (t_bytesIn ?_)
  refine go_iadd (y := mX10_append) (pc := 19) dX10_append_19 ?_
  refine go_iload (y := mX10_append) (pc := 20) dX10_append_20 rfl ?_
  refine go_callS1 (y := mX10_append) (pc := 22) (y' := mX8_bytesIn) (kc2 := 1) (ks2 := 6) dX10_append_22 ml_X10_85 ok_X8_bytesIn rfl (by decide) (Nat.le_of_ble_eq_true rfl) rfl (t_bytesIn ?_)
  refine go_iadd (y := mX10_append) (pc := 25) dX10_append_25 ?_
  refine go_istore (y := mX10_append) (pc := 26) dX10_append_26 (by decide) ?_
  refine go_aload_n (y := mX10_append) (pc := 28) dX10_append_28 rfl rfl ?_
  refine go_getR (y := mX10_append) (pc := 29) dX10_append_29 fl_X10_10 rfl rfl (by decide) ?_
  refine go_bget (y := mX10_append) (pc := 32) dX10_append_32 fl_X10_89 rfl rfl (by decide) (by decide) (fun r32 => ?_)
  refine go_iload (y := mX10_append) (pc := 35) dX10_append_35 rfl ?_
  refine go_iadd (y := mX10_append) (pc := 37) dX10_append_37 ?_
  refine go_sipush (y := mX10_append) (pc := 38) dX10_append_38 (by decide) ?_
  refine go_icmp_le (y := mX10_append) (pc := 41) (tgt := 54) dX10_append_41 (by decide) (by omega) (by omega) (fun h41 => ?_) (fun h41 => ?_)
  · skip
    refine go_aload_n (y := mX10_append) (pc := 54) dX10_append_54 rfl rfl ?_
    refine go_getR (y := mX10_append) (pc := 55) dX10_append_55 fl_X10_10 rfl rfl (by decide) ?_
    refine go_iload_n (y := mX10_append) (pc := 58) dX10_append_58 rfl rfl ?_
    refine go_callV1 (y := mX10_append) (pc := 59) (y' := mX8_putBytesOf) (kc2 := 0) (ks2 := 0) dX10_append_59 ml_X10_99 ok_X8_putBytesOf (show shp 1 = _ from rfl) ⟨_, _, rfl⟩ (by decide) rfl (by decide) (Nat.le_of_ble_eq_true rfl) rfl (t_putBytesOf (wfT_put hT) ?_)
    refine go_mem (pbk_put 4 _) ?_
    refine go_aload_n (y := mX10_append) (pc := 62) dX10_append_62 rfl rfl ?_
    refine go_getR (y := mX10_append) (pc := 63) dX10_append_63 fl_X10_10 rfl rfl (by decide) ?_
    refine go_iload_n (y := mX10_append) (pc := 66) dX10_append_66 rfl rfl ?_
    refine go_callV1 (y := mX10_append) (pc := 67) (y' := mX8_putBytesOf) (kc2 := 0) (ks2 := 0) dX10_append_67 ml_X10_99 ok_X8_putBytesOf (show shp 1 = _ from rfl) ⟨_, _, rfl⟩ (by decide) rfl (by decide) (Nat.le_of_ble_eq_true rfl) rfl (t_putBytesOf (wfT_put hTa) ?_)
    refine go_mem (pbk_put 4 _) ?_
    refine go_aload_n (y := mX10_append) (pc := 70) dX10_append_70 rfl rfl ?_
    refine go_getR (y := mX10_append) (pc := 71) dX10_append_71 fl_X10_10 rfl rfl (by decide) ?_
    refine go_iload_n (y := mX10_append) (pc := 74) dX10_append_74 rfl rfl ?_
    refine go_callV1 (y := mX10_append) (pc := 75) (y' := mX8_putBytesOf) (kc2 := 0) (ks2 := 0) dX10_append_75 ml_X10_99 ok_X8_putBytesOf (show shp 1 = _ from rfl) ⟨_, _, rfl⟩ (by decide) rfl (by decide) (Nat.le_of_ble_eq_true rfl) rfl (t_putBytesOf (wfT_put hTb) ?_)
    refine go_mem (pbk_put 4 _) ?_
    refine go_aload_n (y := mX10_append) (pc := 78) dX10_append_78 rfl rfl ?_
    refine go_getR (y := mX10_append) (pc := 79) dX10_append_79 fl_X10_10 rfl rfl (by decide) ?_
    refine go_iload (y := mX10_append) (pc := 82) dX10_append_82 rfl ?_
    refine go_callV1 (y := mX10_append) (pc := 84) (y' := mX8_putBytesOf) (kc2 := 0) (ks2 := 0) dX10_append_84 ml_X10_99 ok_X8_putBytesOf (show shp 1 = _ from rfl) ⟨_, _, rfl⟩ (by decide) rfl (by decide) (Nat.le_of_ble_eq_true rfl) rfl (t_putBytesOf (wfT_put hTc) ?_)
    refine go_mem (pbk_put 4 _) ?_
    refine go_aload_n (y := mX10_append) (pc := 87) dX10_append_87 rfl rfl ?_
    refine go_getR (y := mX10_append) (pc := 88) dX10_append_88 fl_X10_10 rfl rfl (by decide) ?_
    refine go_iload (y := mX10_append) (pc := 91) dX10_append_91 rfl ?_
    refine go_callV1 (y := mX10_append) (pc := 93) (y' := mX8_putBytesOf) (kc2 := 0) (ks2 := 0) dX10_append_93 ml_X10_99 ok_X8_putBytesOf (show shp 1 = _ from rfl) ⟨_, _, rfl⟩ (by decide) rfl (by decide) (Nat.le_of_ble_eq_true rfl) rfl (t_putBytesOf (wfT_put hTd) ?_)
    refine go_mem (pbk_put 4 _) ?_
    refine go_aload_n (y := mX10_append) (pc := 96) dX10_append_96 rfl rfl ?_
    refine go_getR (y := mX10_append) (pc := 97) dX10_append_97 fl_X10_10 rfl rfl (by decide) ?_
    refine go_bget (y := mX10_append) (pc := 100) dX10_append_100 fl_X10_89 rfl rfl (by decide) (by decide) (fun r100 => ?_)
    refine go_ireturn (y := mX10_append) (pc := 103) dX10_append_103 rfl ?_
    exact K (by unfold nba; omega)
  · skip
    refine go_throw (y := mX10_append) (pc := 44) (i := 18) th_S rfl dX10_append_44 dX10_append_47 dX10_append_48 dX10_append_50 dX10_append_53 (by decide) (Nat.le_of_ble_eq_true rfl) rfl ?_
    exact K2 (by unfold nba; omega)
section MApp
variable {σ μ : Mem} {ν : Nat → Int}
set_option maxRecDepth 8000 in
set_option maxHeartbeats 4000000 in
theorem m_append {a b c d e : Int} {u : Nat} (hu : σ 0 9 = u) (hu7 : u ≤ 700) {Q : Option Value → Mem → Prop} {X : String → Mem → Prop} (K : u + nba a b c d e ≤ 700 → Q (some (.int (iI (u + nba a b c d e)))) (md (fda a b c d e (wr σ 0 7 0)) ν μ)) (K2 : 700 < u + nba a b c d e → Q (some (.int (iI 0))) (md (wr (wr (fda a b c d e (wr σ 0 7 0)) 0 7 1) 0 9 (u : Nat)) ν μ)) : mt 289 1 0 0 mX11_append [.ref 276, .int (iI a), .int (iI b), .int (iI c), .int (iI d), .int (iI e)] Q X (md σ ν μ) := by
  show go 289 1 0 0 mX11_append Q X 0 [.ref 276, .int (iI a), .int (iI b), .int (iI c), .int (iI d), .int (iI e), .null] [] _
  have h1 := nbk_b a 4
  have h2 := nbk_b b 4
  have h3 := nbk_b c 4
  have h4 := nbk_b d 4
  have h5 := nbk_b e 4
  have n0 : wr σ 0 7 0 0 9 = u := (wr_ni (by decide)).trans hu
  have na := (fdk_9 (w := a) 4 (wr σ 0 7 0))
  have nb := (fdk_9 (w := b) 4 (fdk a 4 (wr σ 0 7 0)))
  have nc := (fdk_9 (w := c) 4 (fdk b 4 (fdk a 4 (wr σ 0 7 0))))
  have nd := (fdk_9 (w := d) 4 (fdk c 4 (fdk b 4 (fdk a 4 (wr σ 0 7 0)))))
  have ne := (fdk_9 (w := e) 4 (fdk d 4 (fdk c 4 (fdk b 4 (fdk a 4 (wr σ 0 7 0))))))
  have h7 : fda a b c d e (wr σ 0 7 0) 0 7 = 0 := by
    unfold fda
    rw [fdk_o (by decide), fdk_o (by decide), fdk_o (by decide), fdk_o (by decide), fdk_o (by decide), wr_s]
  have h9 : fda a b c d e (wr σ 0 7 0) 0 9 = u + nba a b c d e := by
    unfold fda nba
    omega
  have hn : 0 ≤ nba a b c d e ∧ nba a b c d e ≤ 20 := by unfold nba; omega
  have J54 : ∀ x : Int, (x = 0 ∨ x = 1) → (x = 1 ↔ u + nba a b c d e ≤ 700) → go 289 1 0 0 mX11_append Q X 54 [.ref 276, .int (iI a), .int (iI b), .int (iI c), .int (iI d), .int (iI e), .int (iI (u : Nat))] [.int (iI x), .ref 276] (md (fda a b c d e (wr σ 0 7 0)) ν μ) := by
    intro x hx hx2
    refine go_iconst (y := mX11_append) (pc := 54) dX11_append_54 ?_
    refine go_callV2 (y := mX11_append) (pc := 55) (y' := mX11_right) (kc2 := 0) (ks2 := 0) dX11_append_55 ml_X11_167 ok_X11_right (show shp 276 = _ from rfl) ⟨_, _, rfl⟩ (by decide) ⟨rfl, rfl⟩ (by decide) (Nat.le_of_ble_eq_true rfl) rfl (m_right h7 (by omega) (by decide) (fun v55 e55 g55 => ?_) (fun g55 => ?_))
    · skip
      refine go_if_eq (y := mX11_append) (pc := 58) (tgt := 66) dX11_append_58 (by decide) (by omega) (fun h58 => ?_) (fun h58 => ?_)
      · skip
        exact absurd h58 (by omega)
      · skip
        refine go_aload_n (y := mX11_append) (pc := 61) dX11_append_61 rfl rfl ?_
        refine go_mget (y := mX11_append) (pc := 62) dX11_append_62 fl_X11_67 rfl rfl (by decide) (fun r62 => ?_)
        refine go_top (b := u + nba a b c d e) (h9) (fun t62 => ?_)
        refine go_ireturn (y := mX11_append) (pc := 65) dX11_append_65 rfl ?_
        exact K (hx2.mp (by omega))
    · skip
      refine go_if_eq (y := mX11_append) (pc := 58) (tgt := 66) dX11_append_58 (by decide) (by omega) (fun h58 => ?_) (fun h58 => ?_)
      · skip
        refine go_aload_n (y := mX11_append) (pc := 66) dX11_append_66 rfl rfl ?_
        refine go_iload (y := mX11_append) (pc := 67) dX11_append_67 rfl ?_
        refine go_mput (y := mX11_append) (pc := 69) dX11_append_69 fp_X11_67 rfl rfl (by decide) (by omega) ?_
        refine go_iconst (y := mX11_append) (pc := 72) dX11_append_72 ?_
        refine go_ireturn (y := mX11_append) (pc := 73) dX11_append_73 rfl ?_
        exact K2 (by omega)
      · skip
        exact absurd rfl h58
  refine go_aload_n (y := mX11_append) (pc := 0) dX11_append_0 rfl rfl ?_
  refine go_iconst (y := mX11_append) (pc := 1) dX11_append_1 ?_
  refine go_mput (y := mX11_append) (pc := 2) dX11_append_2 fp_X11_83 rfl rfl (by decide) (by omega) ?_
  refine go_aload_n (y := mX11_append) (pc := 5) dX11_append_5 rfl rfl ?_
  refine go_mget (y := mX11_append) (pc := 6) dX11_append_6 fl_X11_67 rfl rfl (by decide) (fun r6 => ?_)
  refine go_top (b := ((u : Nat) : Int)) (n0) (fun t6 => ?_)
  refine go_istore (y := mX11_append) (pc := 9) dX11_append_9 (by decide) ?_
  refine go_aload_n (y := mX11_append) (pc := 11) dX11_append_11 rfl rfl ?_
  refine go_iload_n (y := mX11_append) (pc := 12) dX11_append_12 rfl rfl ?_
  refine go_callV1 (y := mX11_append) (pc := 13) (y' := mX11_feeds) (kc2 := 0) (ks2 := 0) dX11_append_13 ml_X11_164 ok_X11_feeds (show shp 276 = _ from rfl) ⟨_, _, rfl⟩ (by decide) rfl (by decide) (Nat.le_of_ble_eq_true rfl) rfl (m_feeds (u := u) n0 (by omega) ?_)
  refine go_aload_n (y := mX11_append) (pc := 16) dX11_append_16 rfl rfl ?_
  refine go_iload_n (y := mX11_append) (pc := 17) dX11_append_17 rfl rfl ?_
  refine go_callV1 (y := mX11_append) (pc := 18) (y' := mX11_feeds) (kc2 := 0) (ks2 := 0) dX11_append_18 ml_X11_164 ok_X11_feeds (show shp 276 = _ from rfl) ⟨_, _, rfl⟩ (by decide) rfl (by decide) (Nat.le_of_ble_eq_true rfl) rfl (m_feeds (u := (u + nbk a 4).toNat) (by omega) (by omega) ?_)
  refine go_aload_n (y := mX11_append) (pc := 21) dX11_append_21 rfl rfl ?_
  refine go_iload_n (y := mX11_append) (pc := 22) dX11_append_22 rfl rfl ?_
  refine go_callV1 (y := mX11_append) (pc := 23) (y' := mX11_feeds) (kc2 := 0) (ks2 := 0) dX11_append_23 ml_X11_164 ok_X11_feeds (show shp 276 = _ from rfl) ⟨_, _, rfl⟩ (by decide) rfl (by decide) (Nat.le_of_ble_eq_true rfl) rfl (m_feeds (u := (u + nbk a 4 + nbk b 4).toNat) (by omega) (by omega) ?_)
  refine go_aload_n (y := mX11_append) (pc := 26) dX11_append_26 rfl rfl ?_
  refine go_iload (y := mX11_append) (pc := 27) dX11_append_27 rfl ?_
  refine go_callV1 (y := mX11_append) (pc := 29) (y' := mX11_feeds) (kc2 := 0) (ks2 := 0) dX11_append_29 ml_X11_164 ok_X11_feeds (show shp 276 = _ from rfl) ⟨_, _, rfl⟩ (by decide) rfl (by decide) (Nat.le_of_ble_eq_true rfl) rfl (m_feeds (u := (u + nbk a 4 + nbk b 4 + nbk c 4).toNat) (by omega) (by omega) ?_)
  refine go_aload_n (y := mX11_append) (pc := 32) dX11_append_32 rfl rfl ?_
  refine go_iload (y := mX11_append) (pc := 33) dX11_append_33 rfl ?_
  refine go_callV1 (y := mX11_append) (pc := 35) (y' := mX11_feeds) (kc2 := 0) (ks2 := 0) dX11_append_35 ml_X11_164 ok_X11_feeds (show shp 276 = _ from rfl) ⟨_, _, rfl⟩ (by decide) rfl (by decide) (Nat.le_of_ble_eq_true rfl) rfl (m_feeds (u := (u + nbk a 4 + nbk b 4 + nbk c 4 + nbk d 4).toNat) (by omega) (by omega) ?_)
  refine go_mem (show _ = md (fda a b c d e (wr σ 0 7 0)) ν μ from rfl) ?_
  refine go_aload_n (y := mX11_append) (pc := 38) dX11_append_38 rfl rfl ?_
  refine go_aload_n (y := mX11_append) (pc := 39) dX11_append_39 rfl rfl ?_
  refine go_mget (y := mX11_append) (pc := 40) dX11_append_40 fl_X11_67 rfl rfl (by decide) (fun r40 => ?_)
  refine go_top (b := u + nba a b c d e) (h9) (fun t40 => ?_)
  refine go_sipush (y := mX11_append) (pc := 43) dX11_append_43 (by decide) ?_
  refine go_icmp_gt (y := mX11_append) (pc := 46) (tgt := 53) dX11_append_46 (by decide) (by omega) (by omega) (fun h46 => ?_) (fun h46 => ?_)
  · skip
    refine go_iconst (y := mX11_append) (pc := 53) dX11_append_53 ?_
    exact J54 0 (by omega) (by omega)
  · skip
    refine go_iconst (y := mX11_append) (pc := 49) dX11_append_49 ?_
    refine go_goto (y := mX11_append) (pc := 50) (tgt := 54) dX11_append_50 (by decide) ?_
    exact J54 1 (by omega) (by omega)
end MApp
