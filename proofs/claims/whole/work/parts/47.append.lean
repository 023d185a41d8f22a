/-! BYTES APPENDED -/
def fd1 (σ : Mem) (b : Int) : Mem := if b = 0 then σ else wr (if σ 0 9 < 700 then wr σ 7 (σ 0 9).toNat b else σ) 0 9 (σ 0 9 + 1)
def fdk (w : Int) : Nat → Mem → Mem
  | 0, σ => σ
  | j + 1, σ => fdk w j (fd1 σ (byt w (8 * j) : Nat))
theorem pt1_put {σ μ : Mem} {b : Int} : pt1 (put 20 σ μ) b = put 20 σ (pt1 μ b) := by
  have e : put 20 σ μ 1 1 = μ 1 1 := put_o (by decide)
  unfold pt1
  rw [e]
  by_cases g : b ≠ 0 ∧ μ 1 1 < 700
  · rw [if_pos g, if_pos g, put_wo (by decide), put_wo (by decide)]
  · rw [if_neg g, if_neg g]
theorem pbk_put {σ : Mem} {w : Int} : ∀ (j : Nat) (μ : Mem), pbk w j (put 20 σ μ) = put 20 σ (pbk w j μ)
  | 0, _ => rfl
  | j + 1, μ => by rw [pbk, pbk, pt1_put, pbk_put j]
theorem wfT_put {σ μ : Mem} (h : wfT μ) : wfT (put 20 σ μ) := by
  obtain ⟨t0, t7, tb⟩ := h
  exact ⟨by rw [put_o (by decide)]; exact t0, by rw [put_o (by decide)]; exact t7, fun k hk => by rw [put_o (by decide)]; exact tb k hk⟩
theorem wfT_pbk {w : Int} : ∀ (j : Nat) (μ : Mem), wfT μ → wfT (pbk w j μ)
  | 0, _, h => h
  | j + 1, μ, h => by
    rw [pbk]
    exact wfT_pbk j _ (wfT_pt1 (by have := byt_b w (8 * j); omega) h)
theorem fd1_9 {σ : Mem} {b : Int} (h : b ≠ 0) : fd1 σ b 0 9 = σ 0 9 + 1 := by
  unfold fd1
  rw [if_neg h, wr_s]
section MFeeds
variable {σ μ : Mem} {ν : Nat → Int}
set_option maxRecDepth 8000 in
set_option maxHeartbeats 4000000 in
theorem m_feeds {w : Int} {u : Nat} (hu : σ 0 9 = u) (hu7 : u ≤ 716) {Q : Option Value → Mem → Prop} {X : String → Mem → Prop} (K : Q none (md (fdk w 4 σ) ν μ)) : mt 289 0 0 0 mX11_feeds [.ref 276, .int (iI w)] Q X (md σ ν μ) := by
  show go 289 0 0 0 mX11_feeds Q X 0 [.ref 276, .int (iI w), .null, .null] [] _
  have loop : ∀ (j : Nat) (x : Int) (t : Value) (τ : Mem), j ≤ 4 → x = 8 * (j : Int) - 8 → (0 ≤ τ 0 9 ∧ τ 0 9 + j ≤ 720) → Q none (md (fdk w j τ) ν μ) → go 289 0 0 0 mX11_feeds Q X 3 [.ref 276, .int (iI w), .int (iI x), t] [] (md τ ν μ) := by
    intro j
    induction j with
    | zero =>
      intro x t τ hj hx ht hQ
      refine go_iload_n (y := mX11_feeds) (pc := 3) dX11_feeds_3 rfl rfl ?_
      refine go_if_lt (y := mX11_feeds) (pc := 4) (tgt := 58) dX11_feeds_4 (by decide) (by omega) (fun h4 => ?_) (fun h4 => ?_)
      · skip
        refine go_return (y := mX11_feeds) (pc := 58) dX11_feeds_58 rfl ?_
        exact hQ
      · skip
        exact absurd h4 (by omega)
    | succ j ih =>
      intro x t τ hj hx ht hQ
      obtain ⟨v, hv1, hv2⟩ := byt_s w (8 * j) (by omega)
      have bb := byt_b w (8 * j)
      refine go_iload_n (y := mX11_feeds) (pc := 3) dX11_feeds_3 rfl rfl ?_
      refine go_if_lt (y := mX11_feeds) (pc := 4) (tgt := 58) dX11_feeds_4 (by decide) (by omega) (fun h4 => ?_) (fun h4 => ?_)
      · skip
        exact absurd h4 (by omega)
      · skip
        refine go_loc (i := 2) (show x = ((8 * j : Nat) : Int) by omega) rfl ?_
        refine go_iload_n (y := mX11_feeds) (pc := 7) dX11_feeds_7 rfl rfl ?_
        refine go_iload_n (y := mX11_feeds) (pc := 8) dX11_feeds_8 rfl rfl ?_
        refine go_ishr (y := mX11_feeds) (pc := 9) dX11_feeds_9 (v := v) hv1 ?_
        refine go_sipush (y := mX11_feeds) (pc := 10) dX11_feeds_10 (by decide) ?_
        refine go_iand (y := mX11_feeds) (pc := 13) dX11_feeds_13 (v := ((byt w (8 * j) : Nat) : Int)) hv2 ?_
        refine go_istore_n (y := mX11_feeds) (pc := 14) dX11_feeds_14 rfl (by decide) ?_
        refine go_iload_n (y := mX11_feeds) (pc := 15) dX11_feeds_15 rfl rfl ?_
        refine go_if_ne (y := mX11_feeds) (pc := 16) (tgt := 22) dX11_feeds_16 (by decide) (by omega) (fun h16 => ?_) (fun h16 => ?_)
        · skip
          have hb0 : ((byt w (8 * j) : Nat) : Int) ≠ 0 := h16
          have e9 := fd1_9 (σ := τ) hb0
          rw [fdk] at hQ
          have h := fun x9 t9 hx9 => ih x9 t9 (fd1 τ (byt w (8 * j) : Nat)) (by omega) hx9 (by omega) hQ
          unfold fd1 at h
          rw [if_neg hb0] at h
          refine go_aload_n (y := mX11_feeds) (pc := 22) dX11_feeds_22 rfl rfl ?_
          refine go_mget (y := mX11_feeds) (pc := 23) dX11_feeds_23 fl_X11_67 rfl rfl (by decide) (fun r23 => ?_)
          refine go_sipush (y := mX11_feeds) (pc := 26) dX11_feeds_26 (by decide) ?_
          refine go_icmp_ge (y := mX11_feeds) (pc := 29) (tgt := 42) dX11_feeds_29 (by decide) (by omega) (by omega) (fun h29 => ?_) (fun h29 => ?_)
          · skip
            rw [if_neg (by omega)] at h
            refine go_aload_n (y := mX11_feeds) (pc := 42) dX11_feeds_42 rfl rfl ?_
            refine go_dup (y := mX11_feeds) (pc := 43) dX11_feeds_43 rfl ?_
            refine go_mget (y := mX11_feeds) (pc := 44) dX11_feeds_44 fl_X11_67 rfl rfl (by decide) (fun r44 => ?_)
            refine go_top (b := τ 0 9) ((by first | exact wr_na (by decide) | rfl)) (fun t44 => ?_)
            refine go_iconst (y := mX11_feeds) (pc := 47) dX11_feeds_47 ?_
            refine go_iadd (y := mX11_feeds) (pc := 48) dX11_feeds_48 ?_
            refine go_mput (y := mX11_feeds) (pc := 49) dX11_feeds_49 fp_X11_67 rfl rfl (by decide) (by omega) ?_
            refine go_iinc (y := mX11_feeds) (pc := 52) dX11_feeds_52 rfl (by decide) ?_
            refine go_goto (y := mX11_feeds) (pc := 55) (tgt := 3) dX11_feeds_55 (by decide) ?_
            exact h _ _ (by omega)
          · skip
            rw [if_pos (by omega)] at h
            refine go_aload_n (y := mX11_feeds) (pc := 32) dX11_feeds_32 rfl rfl ?_
            refine go_mref (y := mX11_feeds) (pc := 33) dX11_feeds_33 fl_X11_29 rfl rfl (by decide) ?_
            refine go_aload_n (y := mX11_feeds) (pc := 36) dX11_feeds_36 rfl rfl ?_
            refine go_mget (y := mX11_feeds) (pc := 37) dX11_feeds_37 fl_X11_67 rfl rfl (by decide) (fun r37 => ?_)
            refine go_iload_n (y := mX11_feeds) (pc := 40) dX11_feeds_40 rfl rfl ?_
            refine go_mias (y := mX11_feeds) (pc := 41) (r := 7) (k := ((τ 0 9).toNat)) dX11_feeds_41 (by decide) (by decide) rfl (by decide) (by omega) (by omega) (by decide) (by omega) ?_
            refine go_aload_n (y := mX11_feeds) (pc := 42) dX11_feeds_42 rfl rfl ?_
            refine go_dup (y := mX11_feeds) (pc := 43) dX11_feeds_43 rfl ?_
            refine go_mget (y := mX11_feeds) (pc := 44) dX11_feeds_44 fl_X11_67 rfl rfl (by decide) (fun r44 => ?_)
            refine go_top (b := τ 0 9) ((by first | exact wr_na (by decide) | rfl)) (fun t44 => ?_)
            refine go_iconst (y := mX11_feeds) (pc := 47) dX11_feeds_47 ?_
            refine go_iadd (y := mX11_feeds) (pc := 48) dX11_feeds_48 ?_
            refine go_mput (y := mX11_feeds) (pc := 49) dX11_feeds_49 fp_X11_67 rfl rfl (by decide) (by omega) ?_
            refine go_iinc (y := mX11_feeds) (pc := 52) dX11_feeds_52 rfl (by decide) ?_
            refine go_goto (y := mX11_feeds) (pc := 55) (tgt := 3) dX11_feeds_55 (by decide) ?_
            exact h _ _ (by omega)
        · skip
          rw [fdk, show fd1 τ (byt w (8 * j) : Nat) = τ from if_pos h16] at hQ
          refine go_goto (y := mX11_feeds) (pc := 19) (tgt := 52) dX11_feeds_19 (by decide) ?_
          refine go_iinc (y := mX11_feeds) (pc := 52) dX11_feeds_52 rfl (by decide) ?_
          refine go_goto (y := mX11_feeds) (pc := 55) (tgt := 3) dX11_feeds_55 (by decide) ?_
          exact ih _ _ τ (by omega) (by omega) (by omega) hQ
  refine go_bipush (y := mX11_feeds) (pc := 0) dX11_feeds_0 (by decide) ?_
  refine go_istore_n (y := mX11_feeds) (pc := 2) dX11_feeds_2 rfl (by decide) ?_
  exact loop 4 24 .null σ (by decide) (by decide) (by omega) K
end MFeeds
