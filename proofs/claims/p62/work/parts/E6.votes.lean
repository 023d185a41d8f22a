/-! OWN: single changes of both; votes -/
theorem own_s2 {S s ω : Mem} {m : Nat} {v : Int} (h : own S s ω) : own S (wr s 2 m v) (wr ω 3 m v) := by
  obtain ⟨a, b, c, d, e, f⟩ := h
  refine ⟨a, fun k hk => ?_, c, d, e, f⟩
  have := b k hk
  by_cases g : k = m
  · subst g; rw [wr_s, wr_s]; exact ⟨this.1, this.2.1, rfl, this.2.2.2.1, this.2.2.2.2⟩
  · exact ⟨this.1, this.2.1, ((wr_ni g).trans this.2.2.1).trans (wr_ni g).symm, this.2.2.2.1, this.2.2.2.2⟩
theorem own_s3 {S s ω : Mem} {m : Nat} {v : Int} (h : own S s ω) : own S (wr s 3 m v) (wr ω 4 m v) := by
  obtain ⟨a, b, c, d, e, f⟩ := h
  refine ⟨a, fun k hk => ?_, c, d, e, f⟩
  have := b k hk
  by_cases g : k = m
  · subst g; rw [wr_s, wr_s]; exact ⟨this.1, this.2.1, this.2.2.1, rfl, this.2.2.2.2⟩
  · exact ⟨this.1, this.2.1, this.2.2.1, ((wr_ni g).trans this.2.2.2.1).trans (wr_ni g).symm, this.2.2.2.2⟩
theorem own_s4 {S s ω : Mem} {m : Nat} {v : Int} (h : own S s ω) : own S (wr s 4 m v) (wr ω 5 m v) := by
  obtain ⟨a, b, c, d, e, f⟩ := h
  refine ⟨a, fun k hk => ?_, c, d, e, f⟩
  have := b k hk
  by_cases g : k = m
  · subst g; rw [wr_s, wr_s]; exact ⟨this.1, this.2.1, this.2.2.1, this.2.2.2.1, rfl⟩
  · exact ⟨this.1, this.2.1, this.2.2.1, this.2.2.2.1, ((wr_ni g).trans this.2.2.2.2).trans (wr_ni g).symm⟩
theorem own_s7 {S s ω : Mem} {q : Nat} {v : Int} (h : own S s ω) (hq : (q : Int) < s 5 0) : own S (wr s 7 q v) (wr ω 8 q v) := by
  obtain ⟨a, b, c, d, e, f⟩ := h
  refine ⟨a, b, fun k hk => ?_, fun k hk hk2 => ?_, e, f⟩
  · have := c k hk
    by_cases g : k = q
    · subst g; rw [wr_s, wr_s]; exact ⟨this.1, this.2.1, rfl, this.2.2.2.1, this.2.2.2.2⟩
    · exact ⟨this.1, this.2.1, ((wr_ni g).trans this.2.2.1).trans (wr_ni g).symm, this.2.2.2.1, this.2.2.2.2⟩
  · have hk3 : s 5 0 ≤ (k : Int) := hk
    have := d k hk hk2
    exact ⟨this.1, (wr_ni (by omega)).trans this.2.1, this.2.2⟩
theorem own_s8 {S s ω : Mem} {q : Nat} {v : Int} (h : own S s ω) (hq : (q : Int) < s 5 0) : own S (wr s 8 q v) (wr ω 7 q v) := by
  obtain ⟨a, b, c, d, e, f⟩ := h
  refine ⟨a, b, fun k hk => ?_, fun k hk hk2 => ?_, e, f⟩
  · have := c k hk
    by_cases g : k = q
    · subst g; rw [wr_s, wr_s]; exact ⟨this.1, rfl, this.2.2.1, this.2.2.2.1, this.2.2.2.2⟩
    · exact ⟨this.1, ((wr_ni g).trans this.2.1).trans (wr_ni g).symm, this.2.2.1, this.2.2.2.1, this.2.2.2.2⟩
  · have hk3 : s 5 0 ≤ (k : Int) := hk
    have := d k hk hk2
    exact ⟨(wr_ni (by omega)).trans this.1, this.2.1, this.2.2⟩
theorem own_s9 {S s ω : Mem} {q : Nat} {v : Int} (h : own S s ω) (hq : (q : Int) < s 5 0) : own S (wr s 9 q v) (wr ω 9 q v) := by
  obtain ⟨a, b, c, d, e, f⟩ := h
  refine ⟨a, b, fun k hk => ?_, fun k hk hk2 => ?_, e, f⟩
  · have := c k hk
    by_cases g : k = q
    · subst g; rw [wr_s, wr_s]; exact ⟨this.1, this.2.1, this.2.2.1, rfl, this.2.2.2.2⟩
    · exact ⟨this.1, this.2.1, this.2.2.1, ((wr_ni g).trans this.2.2.2.1).trans (wr_ni g).symm, this.2.2.2.2⟩
  · have hk3 : s 5 0 ≤ (k : Int) := hk
    have := d k hk hk2
    exact ⟨this.1, this.2.1, (wr_ni (by omega)).trans this.2.2⟩
theorem own_n5 {S s ω : Mem} {v : Int} (h : own S s ω) : own S (wr s 0 5 v) (wr ω 0 7 v) := by
  obtain ⟨a, b, c, d, e, f⟩ := h
  exact ⟨⟨a.1, a.2.1, a.2.2.1, a.2.2.2.1, a.2.2.2.2.1, a.2.2.2.2.2.1, a.2.2.2.2.2.2.1, rfl, a.2.2.2.2.2.2.2.2.1, a.2.2.2.2.2.2.2.2.2.1, a.2.2.2.2.2.2.2.2.2.2.1, a.2.2.2.2.2.2.2.2.2.2.2.1, a.2.2.2.2.2.2.2.2.2.2.2.2.1, a.2.2.2.2.2.2.2.2.2.2.2.2.2⟩, b, c, d, e, f⟩
theorem own_n6 {S s ω : Mem} {v : Int} (h : own S s ω) : own S (wr s 0 6 v) (wr ω 0 10 v) := by
  obtain ⟨a, b, c, d, e, f⟩ := h
  exact ⟨⟨a.1, a.2.1, a.2.2.1, a.2.2.2.1, a.2.2.2.2.1, a.2.2.2.2.2.1, a.2.2.2.2.2.2.1, a.2.2.2.2.2.2.2.1, a.2.2.2.2.2.2.2.2.1, a.2.2.2.2.2.2.2.2.2.1, rfl, a.2.2.2.2.2.2.2.2.2.2.2.1, a.2.2.2.2.2.2.2.2.2.2.2.2.1, a.2.2.2.2.2.2.2.2.2.2.2.2.2⟩, b, c, d, e, f⟩
theorem own_n7 {S s ω : Mem} {v : Int} (h : own S s ω) : own S (wr s 0 7 v) (wr ω 0 11 v) := by
  obtain ⟨a, b, c, d, e, f⟩ := h
  exact ⟨⟨a.1, a.2.1, a.2.2.1, a.2.2.2.1, a.2.2.2.2.1, a.2.2.2.2.2.1, a.2.2.2.2.2.2.1, a.2.2.2.2.2.2.2.1, a.2.2.2.2.2.2.2.2.1, a.2.2.2.2.2.2.2.2.2.1, a.2.2.2.2.2.2.2.2.2.2.1, rfl, a.2.2.2.2.2.2.2.2.2.2.2.2.1, a.2.2.2.2.2.2.2.2.2.2.2.2.2⟩, b, c, d, e, f⟩
theorem own_n8 {S s ω : Mem} {v : Int} (h : own S s ω) : own S (wr s 0 8 v) (wr ω 0 12 v) := by
  obtain ⟨a, b, c, d, e, f⟩ := h
  exact ⟨⟨a.1, a.2.1, a.2.2.1, a.2.2.2.1, a.2.2.2.2.1, a.2.2.2.2.2.1, a.2.2.2.2.2.2.1, a.2.2.2.2.2.2.2.1, a.2.2.2.2.2.2.2.2.1, a.2.2.2.2.2.2.2.2.2.1, a.2.2.2.2.2.2.2.2.2.2.1, a.2.2.2.2.2.2.2.2.2.2.2.1, rfl, a.2.2.2.2.2.2.2.2.2.2.2.2.2⟩, b, c, d, e, f⟩
theorem own_n9 {S s ω : Mem} {v : Int} (h : own S s ω) : own S (wr s 0 9 v) (wr ω 0 13 v) := by
  obtain ⟨a, b, c, d, e, f⟩ := h
  exact ⟨⟨a.1, a.2.1, a.2.2.1, a.2.2.2.1, a.2.2.2.2.1, a.2.2.2.2.2.1, a.2.2.2.2.2.2.1, a.2.2.2.2.2.2.2.1, a.2.2.2.2.2.2.2.2.1, a.2.2.2.2.2.2.2.2.2.1, a.2.2.2.2.2.2.2.2.2.2.1, a.2.2.2.2.2.2.2.2.2.2.2.1, a.2.2.2.2.2.2.2.2.2.2.2.2.1, rfl⟩, b, c, d, e, f⟩
/-- the chamber's number of razors sharpened stands nowhere in own -/
theorem own_n10 {S s ω : Mem} {v : Int} (h : own S s ω) : own S (wr s 0 10 v) ω := by
  obtain ⟨a, b, c, d, e, f⟩ := h
  exact ⟨a, b, c, d, e, f⟩
theorem own_x {S s ω : Mem} {j : Nat} {v : Int} (h : own S s ω) (hj : 14 ≤ j) : own S s (wr ω 0 j v) := by
  obtain ⟨a, b, c, d, e, f⟩ := h
  refine ⟨?_, b, c, d, e, f⟩
  rw [wr_ni (by omega), wr_ni (by omega), wr_ni (by omega), wr_ni (by omega), wr_ni (by omega), wr_ni (by omega), wr_ni (by omega), wr_ni (by omega), wr_ni (by omega), wr_ni (by omega), wr_ni (by omega), wr_ni (by omega), wr_ni (by omega), wr_ni (by omega)]
  exact a
theorem wr_same {μ : Mem} {a i : Nat} {v : Int} (h : v = μ a i) : wr μ a i v = μ := by
  funext b j; unfold wr
  split
  · rename_i g; rw [g.1, g.2, h]
  · rfl
theorem wp0m {v : Int} (h : rng v) : wp (v - 0) = v := by rw [show v - 0 = v by omega]; exact wp_of h
theorem wp0p {v : Int} (h : rng v) : wp (v + 0) = v := by rw [show v + 0 = v by omega]; exact wp_of h
theorem hvk_5 {s : Mem} {q : Nat} {w : Int} (r j : Nat) (h : r ≠ 0 ∧ r ≠ 2 ∧ r ≠ 3) : ∀ k, hvk s q w k r j = s r j
  | 0 => rfl
  | k + 1 => by
    rw [hvk]
    unfold hv2 hv1
    (repeat' split) <;> (try rw [wr_na (by omega)]) <;> (try rw [wr_na (by omega)]) <;> (try rw [wr_na (by omega)]) <;> exact hvk_5 r j h k
set_option maxRecDepth 8000 in
set_option maxHeartbeats 4000000 in
theorem o_votes {z w : Nat} (hw : is_ow w) (hz : w + 17 ≤ z) {S s ω μ : Mem} (hS : wfS S) (hC : wfC S s) (hR : own S s ω) {q : Nat} (hq : (q : Int) < s 5 0) {Q : Option Value → Mem → Prop} {X : String → Mem → Prop} (K : ∀ ω' v, own S (hvo S s q) ω' → (∀ j, 14 ≤ j → ω' 0 j = ω 0 j) → v = bI (0 < mgn S s q) → v = 0 ∨ v = 1 → Q (some (.int (iI v))) (ow w ω' μ)) : mt z 3 0 0 mX11_votes [.ref w, .int (iI (q : Nat))] Q X (ow w ω μ) := by
  show go z 3 0 0 mX11_votes Q X 0 [.ref w, .int (iI (q : Nat)), .null, .null, .null, .null] [] _
  have n1 := wf_n hS
  have r1 := wf_r hS hC
  have fin : ∀ (ω1 : Mem) (b : Int) (u4 u5 : Value), b = bI (0 < mgn S s q) → (b = 0 ∨ b = 1) → own S (hvk s q (if 0 < mgn S s q then 1 else -1) (S 0 7).toNat) ω1 → (∀ j, 14 ≤ j → ω1 0 j = ω 0 j) → go z 3 0 0 mX11_votes Q X 131 [.ref w, .int (iI (q : Nat)), .int (iI b), .int (iI ((S 0 7).toNat : Nat)), u4, u5] [] (ow w ω1 μ) := by
    intro ω1 b u4 u5 hb hb2 hO ho
    have h5 : ∀ r j, r ≠ 0 ∧ r ≠ 2 ∧ r ≠ 3 → hvk s q (if 0 < mgn S s q then 1 else -1) (S 0 7).toNat r j = s r j := fun r j h => hvk_5 r j h _
    have J145 : ∀ v : Int, v = (if 0 < mgn S s q then 1 else 2) → go z 3 0 0 mX11_votes Q X 145 [.ref w, .int (iI (q : Nat)), .int (iI b), .int (iI ((S 0 7).toNat : Nat)), u4, u5] [.int (iI v), .int (iI (q : Nat)), .ref (w + 8)] (ow w ω1 μ) := by
      intro v hv
      have hw1 := wf_w (a := 7) (i := q) (v := v) (wf_hvk (q := q) (w := if 0 < mgn S s q then 1 else -1) hC (S 0 7).toNat (by omega)) (by split at hv <;> omega)
      have hw2 := fun x => wf_w (a := 0) (i := 8) (v := x) hw1 (by omega)
      have o7 := own_s7 (q := q) (v := v) hO (by rw [h5 5 0 (by decide)]; exact hq)
      refine go_wias (y := mX11_votes) (pc := 145) (r := 8) (k := q) dX11_votes_145 hw (by decide) rfl hz rfl (by omega) (by decide) (by split at hv <;> omega) ?_
      refine go_aload_n (y := mX11_votes) (pc := 146) dX11_votes_146 rfl rfl ?_
      refine go_dup (y := mX11_votes) (pc := 147) dX11_votes_147 rfl ?_
      refine go_wget (y := mX11_votes) (pc := 148) (r := 0) dX11_votes_148 fl_X11_97 hw (by decide) rfl rfl hz (fun r148 => ?_)
      refine go_iconst (y := mX11_votes) (pc := 151) dX11_votes_151 ?_
      refine go_iadd (y := mX11_votes) (pc := 152) dX11_votes_152 ?_
      refine go_wputW (y := mX11_votes) (pc := 153) (r := 0) dX11_votes_153 fp_X11_97 hw (by decide) rfl rfl hz  ?_
      refine go_aload_n (y := mX11_votes) (pc := 156) dX11_votes_156 rfl rfl ?_
      refine go_iload_n (y := mX11_votes) (pc := 157) dX11_votes_157 rfl rfl ?_
      refine go_callV1 (y := mX11_votes) (pc := 158) (y' := mX11_removesAll) (kc2 := 0) (ks2 := 0) dX11_votes_158 ml_X11_155 ok_X11_removesAll (ow_sh hw 0 (by decide)) ⟨_, _, rfl⟩ (by omega) rfl ⟨by decide, Nat.le_refl _, by decide, by decide, by decide⟩ (Nat.le_of_ble_eq_true rfl) rfl (o_removesAll hw hz hS (hw2 _) (own_n8 o7) (q := q) (by omega) (fun ω158 v158 e158 f158 g158 b158 => ?_))
      refine go_istore_n (y := mX11_votes) (pc := 161) dX11_votes_161 rfl (by decide) ?_
      refine go_iload_n (y := mX11_votes) (pc := 162) dX11_votes_162 rfl rfl ?_
      refine go_zreturn (y := mX11_votes) (pc := 163) dX11_votes_163 rfl (by omega) ?_
      refine K ω158 b ?_ (fun j hj => ?_) hb hb2
      · unfold hvo clo
        dsimp only
        rw [← hv, cab_o (r := 0) (by omega), ← cab_w0]
        have e12 : ω1 0 12 = hvk s q (if 0 < mgn S s q then 1 else -1) (S 0 7).toNat 0 8 := hO.1.2.2.2.2.2.2.2.2.2.2.2.2.1
        rw [show wr ω1 8 q v 0 12 = ω1 0 12 from wr_na (by decide), e12] at e158
        exact e158
      · rw [f158 0 j (by decide), wr_ni (by omega), wr_na (by decide)]
        exact ho j hj
    refine go_aload_n (y := mX11_votes) (pc := 131) dX11_votes_131 rfl rfl ?_
    refine go_getR (y := mX11_votes) (pc := 132) dX11_votes_132 fl_X11_31 (ow_sh hw 0 (by decide)) rfl (by omega) ?_
    refine go_iload_n (y := mX11_votes) (pc := 135) dX11_votes_135 rfl rfl ?_
    refine go_iload_n (y := mX11_votes) (pc := 136) dX11_votes_136 rfl rfl ?_
    refine go_if_eq (y := mX11_votes) (pc := 137) (tgt := 144) dX11_votes_137 (by decide) (by omega) (fun h137 => ?_) (fun h137 => ?_)
    · skip
      refine go_iconst (y := mX11_votes) (pc := 144) dX11_votes_144 ?_
      exact J145 2 (by rw [if_neg (bI_0 hb h137)])
    · skip
      refine go_iconst (y := mX11_votes) (pc := 140) dX11_votes_140 ?_
      refine go_goto (y := mX11_votes) (pc := 141) (tgt := 145) dX11_votes_141 (by decide) ?_
      exact J145 1 (by rw [if_pos (bI_1 hb h137)])
  have loop : ∀ (n k : Nat) (ω1 : Mem) (b : Int) (u4 u5 : Value), (k : Int) + n = S 0 7 → b = bI (0 < mgn S s q) → (b = 0 ∨ b = 1) → own S (hvk s q (if 0 < mgn S s q then 1 else -1) k) ω1 → (∀ j, 14 ≤ j → ω1 0 j = ω 0 j) → go z 3 0 0 mX11_votes Q X 23 [.ref w, .int (iI (q : Nat)), .int (iI b), .int (iI (k : Nat)), u4, u5] [] (ow w ω1 μ) := by
    intro n
    induction n using Nat.strongRecOn with
    | _ n ih =>
      intro k ω1 b u4 u5 hk hb hb2 hO ho
      have ih' := ih (n - 1)
      have e8 := hO.1.2.2.2.2.2.2.2.2.1
      have hwf := wf_hvk (q := q) (w := if 0 < mgn S s q then 1 else -1) hC k (by omega)
      have hq5 : (q : Int) < hvk s q (if 0 < mgn S s q then 1 else -1) k 5 0 := by rw [hvk_5 5 0 (by decide)]; exact hq
      have eW : (if 0 < mgn S s q then 1 else -1 : Int) = (if b = 1 then 1 else -1) := by
        by_cases g : 0 < mgn S s q
        · rw [if_pos g, hb, bI_t g]; rfl
        · rw [if_neg g, hb, bI_f g]; rfl
      by_cases hkn : k = (S 0 7).toNat
      · subst hkn
        refine go_iload_n (y := mX11_votes) (pc := 23) dX11_votes_23 rfl rfl ?_
        refine go_aload_n (y := mX11_votes) (pc := 24) dX11_votes_24 rfl rfl ?_
        refine go_wget (y := mX11_votes) (pc := 25) (r := 0) dX11_votes_25 fl_X11_85 hw (by decide) rfl rfl hz (fun r25 => ?_)
        refine go_top (b := S 0 7) (e8) (fun t25 => ?_)
        refine go_icmp_ge (y := mX11_votes) (pc := 28) (tgt := 131) dX11_votes_28 (by decide) (by omega) (by omega) (fun h28 => ?_) (fun h28 => ?_)
        · skip
          exact fin ω1 b u4 u5 hb hb2 hO ho
        · skip
          exact absurd h28 (by omega)
      · obtain ⟨v1, v2, v3, v4, v5, v6, v7, v8⟩ := own_v hS hwf hO hq5 (m := k) (by omega)
        have eh : hvk s q (if 0 < mgn S s q then 1 else -1) (k + 1) = hv2 (hv1 (hvk s q (if 0 < mgn S s q then 1 else -1) k) q (if 0 < mgn S s q then 1 else -1) k) (vt (hvk s q (if 0 < mgn S s q then 1 else -1) k) k q) (if 0 < mgn S s q then 1 else -1) k := rfl
        have J125 : ∀ (τ : Mem) (u4 u5 : Value), own S (hvk s q (if 0 < mgn S s q then 1 else -1) (k + 1)) τ → (∀ j, 14 ≤ j → τ 0 j = ω 0 j) → go z 3 0 0 mX11_votes Q X 125 [.ref w, .int (iI (q : Nat)), .int (iI b), .int (iI (k : Nat)), u4, u5] [] (ow w τ μ) := by
          intro τ u4 u5 hτ hj
          refine go_iinc (y := mX11_votes) (pc := 125) dX11_votes_125 rfl (by decide) ?_
          refine go_goto (y := mX11_votes) (pc := 128) (tgt := 23) dX11_votes_128 (by decide) ?_
          exact ih' (by omega) (k + 1) τ b u4 u5 (by omega) hb hb2 hτ hj
        have J85 : ∀ (τ : Mem) (p v : Int) (u5 : Value), (vt (hvk s q (if 0 < mgn S s q then 1 else -1) k) k q = 1 ∨ vt (hvk s q (if 0 < mgn S s q then 1 else -1) k) k q = -1) → own S (hv1 (hvk s q (if 0 < mgn S s q then 1 else -1) k) q (if 0 < mgn S s q then 1 else -1) k) τ → (∀ j, 14 ≤ j → τ 0 j = ω 0 j) → (p = 0 ∨ p = 1) → (p = 1 ↔ vt (hvk s q (if 0 < mgn S s q then 1 else -1) k) k q = (if 0 < mgn S s q then 1 else -1) ∧ 0 < hv1 (hvk s q (if 0 < mgn S s q then 1 else -1) k) q (if 0 < mgn S s q then 1 else -1) k 2 k) → go z 3 0 0 mX11_votes Q X 85 [.ref w, .int (iI (q : Nat)), .int (iI b), .int (iI (k : Nat)), .int (iI v), u5] [.int (iI p)] (ow w τ μ) := by
          intro τ p v u5 hv3 hτ hj hp hp2
          rw [eh] at J125
          revert hτ hp2 J125
          generalize hv1 (hvk s q (if 0 < mgn S s q then 1 else -1) k) q (if 0 < mgn S s q then 1 else -1) k = t1
          generalize vt (hvk s q (if 0 < mgn S s q then 1 else -1) k) k q = vv
          generalize (if 0 < mgn S s q then 1 else -1 : Int) = W
          intro J125 hτ hp2
          rcases hp with hp | hp
          · subst hp
            refine go_istore (y := mX11_votes) (pc := 85) dX11_votes_85 (by decide) ?_
            refine go_aload_n (y := mX11_votes) (pc := 87) dX11_votes_87 rfl rfl ?_
            refine go_getR (y := mX11_votes) (pc := 88) dX11_votes_88 fl_X11_16 (ow_sh hw 0 (by decide)) rfl (by omega) ?_
            refine go_iload_n (y := mX11_votes) (pc := 91) dX11_votes_91 rfl rfl ?_
            refine go_dup2 (y := mX11_votes) (pc := 92) dX11_votes_92 rfl rfl ?_
            refine go_wial (y := mX11_votes) (pc := 93) (r := 3) (k := k) dX11_votes_93 hw (by decide) rfl hz rfl (by omega) (by decide) (fun r93 => ?_)
            refine go_iload (y := mX11_votes) (pc := 94) dX11_votes_94 rfl ?_
            refine go_if_eq (y := mX11_votes) (pc := 96) (tgt := 103) dX11_votes_96 (by decide) (by omega) (fun h96 => ?_) (fun h96 => ?_)
            · skip
              refine go_iconst (y := mX11_votes) (pc := 103) dX11_votes_103 ?_
              refine go_isub (y := mX11_votes) (pc := 104) dX11_votes_104 ?_
              refine go_wiasW (y := mX11_votes) (pc := 105) (r := 3) (k := k) dX11_votes_105 hw (by decide) rfl hz rfl (by omega) (by decide)  ?_
              refine go_aload_n (y := mX11_votes) (pc := 106) dX11_votes_106 rfl rfl ?_
              refine go_dup (y := mX11_votes) (pc := 107) dX11_votes_107 rfl ?_
              refine go_wget (y := mX11_votes) (pc := 108) (r := 0) dX11_votes_108 fl_X11_94 hw (by decide) rfl rfl hz (fun r108 => ?_)
              refine go_iload (y := mX11_votes) (pc := 111) dX11_votes_111 rfl ?_
              refine go_if_eq (y := mX11_votes) (pc := 113) (tgt := 120) dX11_votes_113 (by decide) (by omega) (fun h113 => ?_) (fun h113 => ?_)
              · skip
                refine go_iconst (y := mX11_votes) (pc := 120) dX11_votes_120 ?_
                refine go_iadd (y := mX11_votes) (pc := 121) dX11_votes_121 ?_
                refine go_wputW (y := mX11_votes) (pc := 122) (r := 0) dX11_votes_122 fp_X11_94 hw (by decide) rfl rfl hz  ?_
                rw [show wr τ 3 k (wp (τ 3 k - 0)) = τ from wr_same (wp0m r93)] at r108 ⊢
                rw [show wr τ 0 11 (wp (τ 0 11 + 0)) = τ from wr_same (wp0p r108)]
                refine J125 τ _ _ ?_ hj
                unfold hv2
                rw [if_neg (fun w9 => absurd (hp2.mpr w9) (by decide))]
                exact hτ
              · skip
                exact absurd rfl h113
            · skip
              exact absurd rfl h96
          · subst hp
            refine go_istore (y := mX11_votes) (pc := 85) dX11_votes_85 (by decide) ?_
            refine go_aload_n (y := mX11_votes) (pc := 87) dX11_votes_87 rfl rfl ?_
            refine go_getR (y := mX11_votes) (pc := 88) dX11_votes_88 fl_X11_16 (ow_sh hw 0 (by decide)) rfl (by omega) ?_
            refine go_iload_n (y := mX11_votes) (pc := 91) dX11_votes_91 rfl rfl ?_
            refine go_dup2 (y := mX11_votes) (pc := 92) dX11_votes_92 rfl rfl ?_
            refine go_wial (y := mX11_votes) (pc := 93) (r := 3) (k := k) dX11_votes_93 hw (by decide) rfl hz rfl (by omega) (by decide) (fun r93 => ?_)
            refine go_iload (y := mX11_votes) (pc := 94) dX11_votes_94 rfl ?_
            refine go_if_eq (y := mX11_votes) (pc := 96) (tgt := 103) dX11_votes_96 (by decide) (by omega) (fun h96 => ?_) (fun h96 => ?_)
            · skip
              exact absurd h96 (by decide)
            · skip
              refine go_iconst (y := mX11_votes) (pc := 99) dX11_votes_99 ?_
              refine go_goto (y := mX11_votes) (pc := 100) (tgt := 104) dX11_votes_100 (by decide) ?_
              refine go_isub (y := mX11_votes) (pc := 104) dX11_votes_104 ?_
              refine go_wiasW (y := mX11_votes) (pc := 105) (r := 3) (k := k) dX11_votes_105 hw (by decide) rfl hz rfl (by omega) (by decide)  ?_
              refine go_aload_n (y := mX11_votes) (pc := 106) dX11_votes_106 rfl rfl ?_
              refine go_dup (y := mX11_votes) (pc := 107) dX11_votes_107 rfl ?_
              refine go_wget (y := mX11_votes) (pc := 108) (r := 0) dX11_votes_108 fl_X11_94 hw (by decide) rfl rfl hz (fun r108 => ?_)
              refine go_iload (y := mX11_votes) (pc := 111) dX11_votes_111 rfl ?_
              refine go_if_eq (y := mX11_votes) (pc := 113) (tgt := 120) dX11_votes_113 (by decide) (by omega) (fun h113 => ?_) (fun h113 => ?_)
              · skip
                exact absurd h113 (by decide)
              · skip
                refine go_iconst (y := mX11_votes) (pc := 116) dX11_votes_116 ?_
                refine go_goto (y := mX11_votes) (pc := 117) (tgt := 121) dX11_votes_117 (by decide) ?_
                refine go_iadd (y := mX11_votes) (pc := 121) dX11_votes_121 ?_
                refine go_wputW (y := mX11_votes) (pc := 122) (r := 0) dX11_votes_122 fp_X11_94 hw (by decide) rfl rfl hz  ?_
                refine J125 _ _ _ ?_ (fun j h14 => by rw [wr_ni (by omega), wr_na (by decide)]; exact hj j h14)
                unfold hv2
                rw [if_pos (hp2.mp rfl)]
                have g1 := (hτ.2.1 k (by omega)).2.2.1
                have g2 := hτ.1.2.2.2.2.2.2.2.2.2.2.2.1
                rw [show wr τ 3 k (wp (τ 3 k - 1)) 0 11 = τ 0 11 from wr_na (by decide), g1, g2]
                have g3 := own_n7 (v := wp (t1 0 7 + 1)) (own_s2 (m := k) (v := wp (t1 2 k - 1)) hτ)
                exact g3
        have J67 : ∀ (τ : Mem) (x v : Int) (u5 : Value), (vt (hvk s q (if 0 < mgn S s q then 1 else -1) k) k q = 1 ∨ vt (hvk s q (if 0 < mgn S s q then 1 else -1) k) k q = -1) → own S (hv1 (hvk s q (if 0 < mgn S s q then 1 else -1) k) q (if 0 < mgn S s q then 1 else -1) k) τ → (∀ j, 14 ≤ j → τ 0 j = ω 0 j) → (x = 0 ∨ x = 1) → (x = 1 ↔ vt (hvk s q (if 0 < mgn S s q then 1 else -1) k) k q = 1) → go z 3 0 0 mX11_votes Q X 67 [.ref w, .int (iI (q : Nat)), .int (iI b), .int (iI (k : Nat)), .int (iI v), u5] [.int (iI x)] (ow w τ μ) := by
          intro τ x v u5 hv3 hτ hj hx hx2
          have g1 := (hτ.2.1 k (by omega)).2.2.1
          have J84 : (¬ (vt (hvk s q (if 0 < mgn S s q then 1 else -1) k) k q = (if 0 < mgn S s q then 1 else -1) ∧ 0 < hv1 (hvk s q (if 0 < mgn S s q then 1 else -1) k) q (if 0 < mgn S s q then 1 else -1) k 2 k)) → go z 3 0 0 mX11_votes Q X 84 [.ref w, .int (iI (q : Nat)), .int (iI b), .int (iI (k : Nat)), .int (iI v), u5] [] (ow w τ μ) := by
            intro hn
            refine go_iconst (y := mX11_votes) (pc := 84) dX11_votes_84 ?_
            exact J85 τ 0 v u5 hv3 hτ hj (by omega) ⟨fun w9 => absurd w9 (by decide), fun w9 => absurd w9 hn⟩
          refine go_iload_n (y := mX11_votes) (pc := 67) dX11_votes_67 rfl rfl ?_
          refine go_icmp_ne (y := mX11_votes) (pc := 68) (tgt := 84) dX11_votes_68 (by decide) (by omega) (by omega) (fun h68 => ?_) (fun h68 => ?_)
          · skip
            refine J84 (fun w9 => ?_)
            have w8 := w9.1
            rw [eW] at w8
            split at w8 <;> omega
          · skip
            refine go_aload_n (y := mX11_votes) (pc := 71) dX11_votes_71 rfl rfl ?_
            refine go_getR (y := mX11_votes) (pc := 72) dX11_votes_72 fl_X11_16 (ow_sh hw 0 (by decide)) rfl (by omega) ?_
            refine go_iload_n (y := mX11_votes) (pc := 75) dX11_votes_75 rfl rfl ?_
            refine go_wial (y := mX11_votes) (pc := 76) (r := 3) (k := k) dX11_votes_76 hw (by decide) rfl hz rfl (by omega) (by decide) (fun r76 => ?_)
            refine go_top (b := hv1 (hvk s q (if 0 < mgn S s q then 1 else -1) k) q (if 0 < mgn S s q then 1 else -1) k 2 k) (g1) (fun t76 => ?_)
            refine go_if_le (y := mX11_votes) (pc := 77) (tgt := 84) dX11_votes_77 (by decide) (by omega) (fun h77 => ?_) (fun h77 => ?_)
            · skip
              exact J84 (fun w9 => by have := w9.2; omega)
            · skip
              refine go_iconst (y := mX11_votes) (pc := 80) dX11_votes_80 ?_
              refine go_goto (y := mX11_votes) (pc := 81) (tgt := 85) dX11_votes_81 (by decide) ?_
              refine J85 τ 1 v u5 hv3 hτ hj (by omega) ⟨fun _ => ⟨Eq.trans ?_ eW.symm, h77⟩, fun _ => rfl⟩
              by_cases g : b = 1
              · rw [if_pos g]; omega
              · rw [if_neg g]; omega
        refine go_iload_n (y := mX11_votes) (pc := 23) dX11_votes_23 rfl rfl ?_
        refine go_aload_n (y := mX11_votes) (pc := 24) dX11_votes_24 rfl rfl ?_
        refine go_wget (y := mX11_votes) (pc := 25) (r := 0) dX11_votes_25 fl_X11_85 hw (by decide) rfl rfl hz (fun r25 => ?_)
        refine go_top (b := S 0 7) (e8) (fun t25 => ?_)
        refine go_icmp_ge (y := mX11_votes) (pc := 28) (tgt := 131) dX11_votes_28 (by decide) (by omega) (by omega) (fun h28 => ?_) (fun h28 => ?_)
        · skip
          exact absurd h28 (by omega)
        · skip
          refine go_aload_n (y := mX11_votes) (pc := 31) dX11_votes_31 rfl rfl ?_
          refine go_iload_n (y := mX11_votes) (pc := 32) dX11_votes_32 rfl rfl ?_
          refine go_iload_n (y := mX11_votes) (pc := 33) dX11_votes_33 rfl rfl ?_
          refine go_callV2 (y := mX11_votes) (pc := 34) (y' := mX11_voice) (kc2 := 0) (ks2 := 0) dX11_votes_34 ml_X11_143 ok_X11_voice (ow_sh hw 0 (by decide)) ⟨_, _, rfl⟩ (by omega) ⟨rfl, rfl⟩ ⟨by decide, Nat.le_refl _, by decide, by decide, by decide⟩ (Nat.le_of_ble_eq_true rfl) rfl (o_voice hw hz (m := k) (q := q) v1 v2 v4 v5 v6 (fun v34 e34 b34 => ?_))
          refine go_istore (y := mX11_votes) (pc := 37) dX11_votes_37 (by decide) ?_
          refine go_iload (y := mX11_votes) (pc := 39) dX11_votes_39 rfl ?_
          refine go_if_ne (y := mX11_votes) (pc := 41) (tgt := 47) dX11_votes_41 (by decide) (by omega) (fun h41 => ?_) (fun h41 => ?_)
          · skip
            have hv3 : vt (hvk s q (if 0 < mgn S s q then 1 else -1) k) k q = 1 ∨ vt (hvk s q (if 0 < mgn S s q then 1 else -1) k) k q = -1 := by omega
            have o3 : own S (hv1 (hvk s q (if 0 < mgn S s q then 1 else -1) k) q (if 0 < mgn S s q then 1 else -1) k) (wr ω1 4 k (wp (ω1 4 k - 1))) := by
              unfold hv1
              rw [if_neg (by omega), v4]
              exact own_s3 hO
            have j3 : ∀ j, 14 ≤ j → wr ω1 4 k (wp (ω1 4 k - 1)) 0 j = ω 0 j := fun j hj => by rw [wr_na (by decide)]; exact ho j hj
            refine go_aload_n (y := mX11_votes) (pc := 47) dX11_votes_47 rfl rfl ?_
            refine go_getR (y := mX11_votes) (pc := 48) dX11_votes_48 fl_X11_19 (ow_sh hw 0 (by decide)) rfl (by omega) ?_
            refine go_iload_n (y := mX11_votes) (pc := 51) dX11_votes_51 rfl rfl ?_
            refine go_dup2 (y := mX11_votes) (pc := 52) dX11_votes_52 rfl rfl ?_
            refine go_wial (y := mX11_votes) (pc := 53) (r := 4) (k := k) dX11_votes_53 hw (by decide) rfl hz rfl (by omega) (by decide) (fun r53 => ?_)
            refine go_iconst (y := mX11_votes) (pc := 54) dX11_votes_54 ?_
            refine go_isub (y := mX11_votes) (pc := 55) dX11_votes_55 ?_
            refine go_wiasW (y := mX11_votes) (pc := 56) (r := 4) (k := k) dX11_votes_56 hw (by decide) rfl hz rfl (by omega) (by decide)  ?_
            refine go_iload (y := mX11_votes) (pc := 57) dX11_votes_57 rfl ?_
            refine go_if_le (y := mX11_votes) (pc := 59) (tgt := 66) dX11_votes_59 (by decide) (by omega) (fun h59 => ?_) (fun h59 => ?_)
            · skip
              refine go_iconst (y := mX11_votes) (pc := 66) dX11_votes_66 ?_
              exact J67 _ 0 v34 u5 hv3 o3 j3 (by omega) ⟨fun w9 => absurd w9 (by decide), fun w9 => by omega⟩
            · skip
              refine go_iconst (y := mX11_votes) (pc := 62) dX11_votes_62 ?_
              refine go_goto (y := mX11_votes) (pc := 63) (tgt := 67) dX11_votes_63 (by decide) ?_
              exact J67 _ 1 v34 u5 hv3 o3 j3 (by omega) ⟨fun _ => by omega, fun _ => rfl⟩
          · skip
            refine go_goto (y := mX11_votes) (pc := 44) (tgt := 125) dX11_votes_44 (by decide) ?_
            refine J125 ω1 _ _ ?_ ho
            rw [eh]
            unfold hv2 hv1
            have h0 : vt (hvk s q (if 0 < mgn S s q then 1 else -1) k) k q = 0 := by omega
            rw [if_neg (fun w9 => by have := w9.1; rw [h0, eW] at this; split at this <;> omega), if_pos h0]
            exact hO
  have J20 : ∀ b : Int, b = bI (0 < mgn S s q) → (b = 0 ∨ b = 1) → go z 3 0 0 mX11_votes Q X 20 [.ref w, .int (iI (q : Nat)), .null, .null, .null, .null] [.int (iI b)] (ow w ω μ) := by
    intro b hb hb2
    refine go_istore_n (y := mX11_votes) (pc := 20) dX11_votes_20 rfl (by decide) ?_
    refine go_iconst (y := mX11_votes) (pc := 21) dX11_votes_21 ?_
    refine go_istore_n (y := mX11_votes) (pc := 22) dX11_votes_22 rfl (by decide) ?_
    exact loop (S 0 7).toNat 0 ω b _ _ (by omega) hb hb2 hR (fun _ _ => rfl)
  refine go_aload_n (y := mX11_votes) (pc := 0) dX11_votes_0 rfl rfl ?_
  refine go_iload_n (y := mX11_votes) (pc := 1) dX11_votes_1 rfl rfl ?_
  refine go_iconst (y := mX11_votes) (pc := 2) dX11_votes_2 ?_
  refine go_callV2 (y := mX11_votes) (pc := 3) (y' := mX11_side) (kc2 := 0) (ks2 := 0) dX11_votes_3 ml_X11_152 ok_X11_side (ow_sh hw 0 (by decide)) ⟨_, _, rfl⟩ (by omega) ⟨rfl, rfl⟩ ⟨by decide, Nat.le_refl _, by decide, by decide, by decide⟩ (Nat.le_of_ble_eq_true rfl) rfl (o_side hw hz hS hC hR (q := q) (by omega) (by omega) (fun v3 e3 b3 => ?_))
  refine go_aload_n (y := mX11_votes) (pc := 6) dX11_votes_6 rfl rfl ?_
  refine go_iload_n (y := mX11_votes) (pc := 7) dX11_votes_7 rfl rfl ?_
  refine go_iconst (y := mX11_votes) (pc := 8) dX11_votes_8 ?_
  refine go_callV2 (y := mX11_votes) (pc := 9) (y' := mX11_side) (kc2 := 0) (ks2 := 0) dX11_votes_9 ml_X11_152 ok_X11_side (ow_sh hw 0 (by decide)) ⟨_, _, rfl⟩ (by omega) ⟨rfl, rfl⟩ ⟨by decide, Nat.le_refl _, by decide, by decide, by decide⟩ (Nat.le_of_ble_eq_true rfl) rfl (o_side hw hz hS hC hR (q := q) (by omega) (by omega) (fun v9 e9 b9 => ?_))
  refine go_icmp_le (y := mX11_votes) (pc := 12) (tgt := 19) dX11_votes_12 (by decide) (by omega) (by omega) (fun h12 => ?_) (fun h12 => ?_)
  · skip
    refine go_iconst (y := mX11_votes) (pc := 19) dX11_votes_19 ?_
    exact J20 0 (bI_f (by unfold mgn; omega)).symm (by omega)
  · skip
    refine go_iconst (y := mX11_votes) (pc := 15) dX11_votes_15 ?_
    refine go_goto (y := mX11_votes) (pc := 16) (tgt := 20) dX11_votes_16 (by decide) ?_
    exact J20 1 (bI_t (by unfold mgn; omega)).symm (by omega)
