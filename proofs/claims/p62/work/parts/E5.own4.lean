/-! OWN: requests removed -/
theorem rqv_c {s t : Mem} {r k : Nat} (h : t 12 r = s 12 k ∧ t 13 r = s 13 k ∧ t 14 r = s 14 k) : rqv t r = rqv s k := by
  unfold rqv
  rw [h.1, h.2.1, h.2.2]
theorem own_cong {S s t ω : Mem} (h : own S s ω) (o : ∀ r j, (r < 11 ∨ 14 < r) → t r j = s r j) (o11 : t 11 0 = s 11 0) (g : ∀ r : Nat, (r : Int) < s 11 0 → t 12 r = s 12 r ∧ t 13 r = s 13 r ∧ t 14 r = s 14 r) : own S t ω := by
  obtain ⟨a, b, c, d, e, f⟩ := h
  have l : ∀ m q, ln t m q = ln s m q := fun m q => o 10 _ (by omega)
  refine ⟨?_, fun m hm => ?_, fun q hq => ?_, fun q hq hq2 => ?_, fun i hi => ?_, fun r hr => ?_⟩
  · rw [o 0 5 (by omega), o 5 0 (by omega), o 0 6 (by omega), o 0 7 (by omega), o 0 8 (by omega), o 0 9 (by omega)]
    exact a
  · rw [o 2 m (by omega), o 3 m (by omega), o 4 m (by omega)]
    exact b m hm
  · rw [o 5 0 (by omega)] at hq
    rw [o 6 q (by omega), o 7 q (by omega), o 8 q (by omega), o 9 q (by omega)]
    simp only [l]
    exact c q hq
  · rw [o 5 0 (by omega)] at hq
    exact d q hq hq2
  · rw [o 16 i (by omega), o 17 i (by omega), o 18 i (by omega), o 19 i (by omega), o 20 i (by omega)]
    exact e i hi
  · rw [o11, f r hr]
    by_cases w : (r : Int) < s 11 0
    · rw [if_pos w, if_pos w, rqv_c (g r w)]
    · rw [if_neg w, if_neg w]
/-- the row of requests moved down from r on, up to K -/
def shf (ω : Mem) (r K : Nat) : Mem := fun a j => if a = 14 ∧ r ≤ j ∧ j < K then ω 14 (j + 1) else ω a j
theorem shf_0 (ω : Mem) (r : Nat) : shf ω r r = ω := by funext a j; unfold shf; rw [if_neg (by omega)]
theorem shf_s (ω : Mem) {r K : Nat} (h : r ≤ K) : wr (shf ω r K) 14 K (shf ω r K 14 (K + 1)) = shf ω r (K + 1) := by
  funext a j
  unfold wr shf
  rw [if_neg (show ¬ ((14 : Nat) = 14 ∧ r ≤ K + 1 ∧ K + 1 < K) by omega)]
  by_cases h1 : a = 14 ∧ j = K
  · obtain ⟨rfl, rfl⟩ := h1
    rw [if_pos ⟨rfl, rfl⟩, if_pos ⟨rfl, h, by omega⟩]
  · rw [if_neg h1]
    by_cases h2 : a = 14 ∧ r ≤ j ∧ j < K
    · rw [if_pos h2, if_pos ⟨h2.1, h2.2.1, by omega⟩]
    · rw [if_neg h2, if_neg (by omega)]
theorem shf_o {ω : Mem} {r K a j : Nat} (h : a ≠ 14) : shf ω r K a j = ω a j := if_neg (fun w => h w.1)
theorem own_rmv {S s ω : Mem} {r : Nat} (hS : wfS S) (hC : wfC S s) (hR : own S s ω) (hr : (r : Int) < s 11 0) : own S (rmv s r) (wr (shf ω r 12) 14 12 0) := by
  have h11 := wf_r hS hC
  obtain ⟨a, b, c, d, e, f⟩ := hR
  have o : ∀ a j, a ≠ 14 → wr (shf ω r 12) 14 12 0 a j = ω a j := fun a j ha => by rw [wr_na ha, shf_o ha]
  have p : ∀ a j, (a < 11 ∨ 14 < a) → rmv s r a j = s a j := fun a j ha => rmv_o ha
  have l : ∀ m q, ln (rmv s r) m q = ln s m q := fun m q => p 10 _ (by omega)
  refine ⟨?_, fun m hm => ?_, fun q hq => ?_, fun q hq hq2 => ?_, fun i hi => ?_, fun k hk => ?_⟩
  · simp only [o _ _ (show (0 : Nat) ≠ 14 by decide)]
    rw [p 0 5 (by omega), p 5 0 (by omega), p 0 6 (by omega), p 0 7 (by omega), p 0 8 (by omega), p 0 9 (by omega)]
    exact a
  · rw [o 1 m (by decide), o 2 m (by decide), o 3 m (by decide), o 4 m (by decide), o 5 m (by decide), p 2 m (by omega), p 3 m (by omega), p 4 m (by omega)]
    exact b m hm
  · rw [p 5 0 (by omega)] at hq
    rw [o 6 q (by decide), o 7 q (by decide), o 8 q (by decide), o 9 q (by decide), p 6 q (by omega), p 7 q (by omega), p 8 q (by omega), p 9 q (by omega)]
    simp only [l, o _ _ (show (10 : Nat) ≠ 14 by decide)]
    exact c q hq
  · rw [p 5 0 (by omega)] at hq
    rw [o 7 q (by decide), o 8 q (by decide), o 9 q (by decide)]
    exact d q hq hq2
  · rw [o 11 i (by decide), o 12 i (by decide), o 13 i (by decide), o 15 i (by decide), o 16 i (by decide), p 16 i (by omega), p 17 i (by omega), p 18 i (by omega), p 19 i (by omega), p 20 i (by omega)]
    exact e i hi
  · rw [rmv_11]
    by_cases g12 : k = 12
    · subst g12
      rw [wr_s, if_neg (by omega)]
    · rw [wr_ni g12]
      unfold shf
      by_cases g : r ≤ k
      · rw [if_pos ⟨rfl, g, by omega⟩, f (k + 1) (by omega)]
        by_cases w : (k : Int) < s 11 0 - 1
        · rw [if_pos w, if_pos (by omega)]
          refine (rqv_c ⟨?_, ?_, ?_⟩).symm <;> rw [rmv_c (by decide) (by omega), if_pos g]
        · rw [if_neg w, if_neg (by omega)]
      · rw [if_neg (fun w => g w.2.1), f k hk, if_pos (by omega), if_pos (by omega)]
        refine (rqv_c ⟨?_, ?_, ?_⟩).symm <;> rw [rmv_c (by decide) (by omega), if_neg g]
set_option maxRecDepth 8000 in
set_option maxHeartbeats 4000000 in
theorem o_removes {z w : Nat} (hw : is_ow w) (hz : w + 17 ≤ z) {ω μ : Mem} {r : Nat} (hr : r < 12) {Q : Option Value → Mem → Prop} {X : String → Mem → Prop} (K : Q none (ow w (wr (shf ω r 12) 14 12 0) μ)) : mt z 0 0 0 mX11_removes [.ref w, .int (iI (r : Nat))] Q X (ow w ω μ) := by
  show go z 0 0 0 mX11_removes Q X 0 [.ref w, .int (iI (r : Nat)), .null] [] _
  have loop : ∀ (n k : Nat), k + n = 12 → r ≤ k → go z 0 0 0 mX11_removes Q X 2 [.ref w, .int (iI (r : Nat)), .int (iI (k : Nat))] [] (ow w (shf ω r k) μ) := by
    intro n
    induction n using Nat.strongRecOn with
    | _ n ih =>
      intro k hk hrk
      refine go_iload_n (y := mX11_removes) (pc := 2) dX11_removes_2 rfl rfl ?_
      refine go_bipush (y := mX11_removes) (pc := 3) dX11_removes_3 (by decide) ?_
      refine go_icmp_ge (y := mX11_removes) (pc := 5) (tgt := 28) dX11_removes_5 (by decide) (by omega) (by omega) (fun h5 => ?_) (fun h5 => ?_)
      · skip
        obtain rfl : k = 12 := by omega
        refine go_aload_n (y := mX11_removes) (pc := 28) dX11_removes_28 rfl rfl ?_
        refine go_getR (y := mX11_removes) (pc := 29) dX11_removes_29 fl_X11_49 (ow_sh hw 0 (by decide)) rfl (by omega) ?_
        refine go_bipush (y := mX11_removes) (pc := 32) dX11_removes_32 (by decide) ?_
        refine go_iconst (y := mX11_removes) (pc := 34) dX11_removes_34 ?_
        refine go_wias (y := mX11_removes) (pc := 35) (r := 14) (k := 12) dX11_removes_35 hw (by decide) rfl hz rfl (by omega) (by decide) (by omega) ?_
        refine go_return (y := mX11_removes) (pc := 36) dX11_removes_36 rfl ?_
        exact K
      · skip
        refine go_aload_n (y := mX11_removes) (pc := 8) dX11_removes_8 rfl rfl ?_
        refine go_getR (y := mX11_removes) (pc := 9) dX11_removes_9 fl_X11_49 (ow_sh hw 0 (by decide)) rfl (by omega) ?_
        refine go_iload_n (y := mX11_removes) (pc := 12) dX11_removes_12 rfl rfl ?_
        refine go_aload_n (y := mX11_removes) (pc := 13) dX11_removes_13 rfl rfl ?_
        refine go_getR (y := mX11_removes) (pc := 14) dX11_removes_14 fl_X11_49 (ow_sh hw 0 (by decide)) rfl (by omega) ?_
        refine go_iload_n (y := mX11_removes) (pc := 17) dX11_removes_17 rfl rfl ?_
        refine go_iconst (y := mX11_removes) (pc := 18) dX11_removes_18 ?_
        refine go_iadd (y := mX11_removes) (pc := 19) dX11_removes_19 ?_
        refine go_wial (y := mX11_removes) (pc := 20) (r := 14) (k := (k + 1)) dX11_removes_20 hw (by decide) rfl hz (by omega) (by omega) (by decide) (fun r20 => ?_)
        refine go_wias (y := mX11_removes) (pc := 21) (r := 14) (k := k) dX11_removes_21 hw (by decide) rfl hz rfl (by omega) (by decide) (by omega) ?_
        refine go_iinc (y := mX11_removes) (pc := 22) dX11_removes_22 rfl (by decide) ?_
        refine go_goto (y := mX11_removes) (pc := 25) (tgt := 2) dX11_removes_25 (by decide) ?_
        rw [shf_s ω hrk]
        exact ih (n - 1) (by omega) (k + 1) (by omega) (by omega)
  refine go_iload_n (y := mX11_removes) (pc := 0) dX11_removes_0 rfl rfl ?_
  refine go_istore_n (y := mX11_removes) (pc := 1) dX11_removes_1 rfl (by decide) ?_
  have h := loop (12 - r) r (by omega) (Nat.le_refl _)
  rw [shf_0] at h
  exact h
theorem wf_rmv {S s : Mem} {p : Nat} (hS : wfS S) (hC : wfC S s) (hp : (p : Int) < s 11 0) : wfC S (rmv s p) := by
  obtain ⟨⟨a1, a2, a3, a4, a5, a6, a7⟩, b, c, d, e, f⟩ := hC
  have o : ∀ a j, (a < 11 ∨ 14 < a) → rmv s p a j = s a j := fun a j ha => rmv_o ha
  have l : ∀ m q, ln (rmv s p) m q = ln s m q := fun m q => o 10 _ (by omega)
  have e11 : rmv s p 11 0 = s 11 0 - 1 := rmv_11
  refine ⟨⟨by rw [o 5 0 (by omega)]; exact a1, by rw [o 5 0 (by omega)]; exact a2, by rw [e11]; omega, by rw [e11]; omega, by rw [o 0 6 (by omega)]; exact a5, by rw [o 0 6 (by omega)]; exact a6, by rw [mrs_c (fun j _ => o 20 j (by omega))]; exact a7⟩, fun m hm => ?_, fun q hq => ?_, fun r hr => ?_, fun r k hr hk => ?_, fun i hi => ?_⟩
  · rw [o 2 m (by omega), o 3 m (by omega)]; exact b m hm
  · rw [o 5 0 (by omega)] at hq
    rw [o 6 q (by omega), o 7 q (by omega), o 8 q (by omega), o 9 q (by omega)]
    simp only [l]
    exact c q hq
  · rw [e11] at hr
    rw [o 5 0 (by omega), rmv_c (r := 12) (by decide) (by omega), rmv_c (r := 13) (by decide) (by omega), rmv_c (r := 14) (by decide) (by omega)]
    have d1 := d (r + 1) (by omega)
    have d2 := d r (by omega)
    by_cases g : p ≤ r
    · rw [if_pos g, if_pos g, if_pos g]; exact d1
    · rw [if_neg g, if_neg g, if_neg g]; exact d2
  · rw [e11] at hr hk
    rw [rmv_c (by decide) (by omega), rmv_c (by decide) (by omega)]
    by_cases g : p ≤ r <;> by_cases g2 : p ≤ k
    · rw [if_pos g, if_pos g2]; intro w; have := e (r + 1) (k + 1) (by omega) (by omega) w; omega
    · rw [if_pos g, if_neg g2]; intro w; have := e (r + 1) k (by omega) (by omega) w; omega
    · rw [if_neg g, if_pos g2]; intro w; have := e r (k + 1) (by omega) (by omega) w; omega
    · rw [if_neg g, if_neg g2]; intro w; have := e r k (by omega) (by omega) w; omega
  · rw [o 16 i (by omega), o 17 i (by omega), o 18 i (by omega), o 19 i (by omega), o 20 i (by omega), o 5 0 (by omega)]
    exact f i hi
/-- what of s is left when the first r + n requests were looked at and n of them, all about q, were taken out -/
def cbI (s t : Mem) (q : Int) (r n : Nat) : Prop :=
  (r + n : Int) ≤ s 11 0 ∧ t 11 0 = s 11 0 - n ∧ (cab_k s q (r + n)).2 = r ∧ (∀ a j, (a < 11 ∨ 14 < a) → t a j = s a j) ∧
  (∀ a j, 12 ≤ a ∧ a ≤ 14 → j < r → t a j = (cab_k s q (r + n)).1 a j) ∧ (∀ a j : Nat, 12 ≤ a ∧ a ≤ 14 → r ≤ j → (j : Int) < s 11 0 - n → t a j = s a (j + n))
theorem cbI_0 {s : Mem} {q : Int} (h : 0 ≤ s 11 0) : cbI s s q 0 0 := ⟨by omega, by omega, rfl, fun _ _ _ => rfl, fun _ _ _ h => by omega, fun _ _ _ _ _ => rfl⟩
theorem cbI_a {s t : Mem} {q : Int} {r n : Nat} (h : cbI s t q r n) (hr : (r : Int) < t 11 0) (hq : t 13 r ≠ q) : cbI s t q (r + 1) n := by
  obtain ⟨h1, h2, h3, h4, h5, h6⟩ := h
  have h9 := h6 13 r (by decide) (Nat.le_refl _) (by omega)
  have hge : ∀ a : Nat, (cab_k s q (r + n)).1 a (r + n) = s a (r + n) := fun a => cab_k_ge (r + n) (by omega)
  have e : cab_k s q (r + 1 + n) = (mvr (cab_k s q (r + n)).1 (r + n) r, r + 1) := by
    rw [show r + 1 + n = r + n + 1 by omega, cab_k, if_pos (by rw [hge 13, ← h9]; exact hq), h3]
  refine ⟨by omega, h2, by rw [e], h4, fun a j ha hj => ?_, fun a j ha hj hj2 => h6 a j ha (by omega) hj2⟩
  rw [e]
  show t a j = mvr _ _ _ a j
  by_cases g : j = r
  · subst g
    rw [mvr_e ha, hge a]
    exact h6 a j ha (Nat.le_refl _) (by omega)
  · rw [mvr_n g]
    exact h5 a j ha (by omega)
theorem cbI_b {s t : Mem} {q : Int} {r n : Nat} (h : cbI s t q r n) (hr : (r : Int) < t 11 0) (hq : t 13 r = q) : cbI s (rmv t r) q r (n + 1) := by
  obtain ⟨h1, h2, h3, h4, h5, h6⟩ := h
  have h9 := h6 13 r (by decide) (Nat.le_refl _) (by omega)
  have hge : ∀ a : Nat, (cab_k s q (r + n)).1 a (r + n) = s a (r + n) := fun a => cab_k_ge (r + n) (by omega)
  have e : cab_k s q (r + (n + 1)) = cab_k s q (r + n) := by
    rw [show r + (n + 1) = r + n + 1 by omega, cab_k, if_neg (by rw [hge 13, ← h9]; exact fun w => w hq)]
  refine ⟨by omega, by rw [rmv_11]; omega, by rw [e]; exact h3, fun a j ha => by rw [rmv_o ha]; exact h4 a j ha, fun a j ha hj => ?_, fun a j ha hj hj2 => ?_⟩
  · rw [e, rmv_c ha (by omega), if_neg (by omega)]
    exact h5 a j ha hj
  · rw [rmv_c ha (by omega), if_pos hj, h6 a (j + 1) ha (by omega) (by omega), show j + 1 + n = j + (n + 1) by omega]
theorem cbI_e {S s t ω : Mem} {q : Int} {r n : Nat} (h : cbI s t q r n) (hr : (r : Int) = t 11 0) (hR : own S t ω) : own S (cab s q) ω ∧ s 11 0 - cab s q 11 0 = n := by
  obtain ⟨h1, h2, h3, h4, h5, h6⟩ := h
  have eN : (s 11 0).toNat = r + n := by omega
  have e11 : cab s q 11 0 = t 11 0 := by rw [cab_11, eN, h3]; exact hr
  refine ⟨own_cong hR (fun a j ha => by rw [cab_o (by omega), h4 a j (by omega)]) e11 (fun k hk => ?_), by rw [e11]; omega⟩
  unfold cab
  rw [wr_na (by decide), wr_na (by decide), wr_na (by decide), eN]
  exact ⟨(h5 12 k (by decide) (by omega)).symm, (h5 13 k (by decide) (by omega)).symm, (h5 14 k (by decide) (by omega)).symm⟩
set_option maxRecDepth 8000 in
set_option maxHeartbeats 4000000 in
theorem o_removesAll {z w : Nat} (hw : is_ow w) (hz : w + 17 ≤ z) {S s ω μ : Mem} (hS : wfS S) (hC : wfC S s) (hR : own S s ω) {q : Nat} (hq : q < 16) {Q : Option Value → Mem → Prop} {X : String → Mem → Prop} (K : ∀ ω' v, own S (cab s q) ω' → (∀ a j, a ≠ 14 → ω' a j = ω a j) → v = s 11 0 - cab s q 11 0 → 0 ≤ v ∧ v ≤ 12 → Q (some (.int (iI v))) (ow w ω' μ)) : mt z 1 0 0 mX11_removesAll [.ref w, .int (iI (q : Nat))] Q X (ow w ω μ) := by
  show go z 1 0 0 mX11_removesAll Q X 0 [.ref w, .int (iI (q : Nat)), .null, .null] [] _
  have h11 := wf_r hS hC
  have loop : ∀ (m r n : Nat) (t τ : Mem), (r : Int) + n + m = s 11 0 → cbI s t q r n → wfC S t → own S t τ → (∀ a j, a ≠ 14 → τ a j = ω a j) → go z 1 0 0 mX11_removesAll Q X 4 [.ref w, .int (iI (q : Nat)), .int (iI (n : Nat)), .int (iI (r : Nat))] [] (ow w τ μ) := by
    intro m
    induction m using Nat.strongRecOn with
    | _ m ih =>
      intro r n t τ hm hI hCt hRt ho
      have ih' := ih (m - 1)
      have hF := hRt.2.2.2.2.2 r (by omega)
      have h2 := hI.2.1
      refine go_aload_n (y := mX11_removesAll) (pc := 4) dX11_removesAll_4 rfl rfl ?_
      refine go_getR (y := mX11_removesAll) (pc := 5) dX11_removesAll_5 fl_X11_49 (ow_sh hw 0 (by decide)) rfl (by omega) ?_
      refine go_iload_n (y := mX11_removesAll) (pc := 8) dX11_removesAll_8 rfl rfl ?_
      refine go_wial (y := mX11_removesAll) (pc := 9) (r := 14) (k := r) dX11_removesAll_9 hw (by decide) rfl hz rfl (by omega) (by decide) (fun r9 => ?_)
      refine go_if_le (y := mX11_removesAll) (pc := 10) (tgt := 42) dX11_removesAll_10 (by decide) (by omega) (fun h10 => ?_) (fun h10 => ?_)
      · skip
        refine go_iload_n (y := mX11_removesAll) (pc := 42) dX11_removesAll_42 rfl rfl ?_
        refine go_ireturn (y := mX11_removesAll) (pc := 43) dX11_removesAll_43 rfl ?_
        have e : (r : Int) = t 11 0 := by
          by_cases g : (r : Int) < t 11 0
          · obtain ⟨b, b1, b2, b3, b4, b5, b6, b7, -⟩ := rqv_b hCt hS g
            rw [if_pos g] at hF
            omega
          · omega
        have h := cbI_e hI e hRt
        exact K τ n h.1 ho h.2.symm (by omega)
      · skip
        have g : (r : Int) < t 11 0 := by
          by_cases g : (r : Int) < t 11 0
          · exact g
          · rw [if_neg g] at hF
            omega
        have hd := hCt.2.2.2.1 r g
        have h16 := hCt.1.2.1
        refine go_aload_n (y := mX11_removesAll) (pc := 13) dX11_removesAll_13 rfl rfl ?_
        refine go_iload_n (y := mX11_removesAll) (pc := 14) dX11_removesAll_14 rfl rfl ?_
        refine go_callV1 (y := mX11_removesAll) (pc := 15) (y' := mX11_what) (kc2 := 0) (ks2 := 0) dX11_removesAll_15 ml_X11_116 ok_X11_what (ow_sh hw 0 (by decide)) ⟨_, _, rfl⟩ (by omega) rfl ⟨by decide, Nat.le_refl _, by decide, by decide, by decide⟩ (Nat.le_of_ble_eq_true rfl) rfl (o_what hw hz hS hCt (r := r) (by omega) (own_F hS hCt hRt (by omega)) ?_)
        refine go_iload_n (y := mX11_removesAll) (pc := 18) dX11_removesAll_18 rfl rfl ?_
        refine go_icmp_eq (y := mX11_removesAll) (pc := 19) (tgt := 25) dX11_removesAll_19 (by decide) (by omega) (by omega) (fun h19 => ?_) (fun h19 => ?_)
        · skip
          refine go_aload_n (y := mX11_removesAll) (pc := 25) dX11_removesAll_25 rfl rfl ?_
          refine go_iload_n (y := mX11_removesAll) (pc := 26) dX11_removesAll_26 rfl rfl ?_
          refine go_callV1 (y := mX11_removesAll) (pc := 27) (y' := mX11_removes) (kc2 := 0) (ks2 := 0) dX11_removesAll_27 ml_X11_131 ok_X11_removes (ow_sh hw 0 (by decide)) ⟨_, _, rfl⟩ (by omega) rfl ⟨by decide, Nat.le_refl _, by decide, by decide, by decide⟩ (Nat.le_of_ble_eq_true rfl) rfl (o_removes hw hz (r := r) (by omega) ?_)
          refine go_iinc (y := mX11_removesAll) (pc := 30) dX11_removesAll_30 rfl (by decide) ?_
          refine go_iinc (y := mX11_removesAll) (pc := 33) dX11_removesAll_33 rfl (by decide) ?_
          refine go_iinc (y := mX11_removesAll) (pc := 36) dX11_removesAll_36 rfl (by decide) ?_
          refine go_goto (y := mX11_removesAll) (pc := 39) (tgt := 4) dX11_removesAll_39 (by decide) ?_
          have h := ih' (by omega) r (n + 1) (rmv t r) (wr (shf τ r 12) 14 12 0) (by omega) (cbI_b hI g h19) (wf_rmv hS hCt g) (own_rmv hS hCt hRt g) (fun a j ha => by rw [wr_na ha, shf_o ha]; exact ho a j ha)
          refine go_loc (i := 3) (show (r : Int) + -1 + 1 = ((r : Nat) : Int) by omega) rfl ?_
          exact h
        · skip
          refine go_goto (y := mX11_removesAll) (pc := 22) (tgt := 36) dX11_removesAll_22 (by decide) ?_
          refine go_iinc (y := mX11_removesAll) (pc := 36) dX11_removesAll_36 rfl (by decide) ?_
          refine go_goto (y := mX11_removesAll) (pc := 39) (tgt := 4) dX11_removesAll_39 (by decide) ?_
          exact ih' (by omega) (r + 1) n t τ (by omega) (cbI_a hI g h19) hCt hRt ho
  refine go_iconst (y := mX11_removesAll) (pc := 0) dX11_removesAll_0 ?_
  refine go_istore_n (y := mX11_removesAll) (pc := 1) dX11_removesAll_1 rfl (by decide) ?_
  refine go_iconst (y := mX11_removesAll) (pc := 2) dX11_removesAll_2 ?_
  refine go_istore_n (y := mX11_removesAll) (pc := 3) dX11_removesAll_3 rfl (by decide) ?_
  exact loop (s 11 0).toNat 0 0 s ω (by omega) (cbI_0 h11.2.2.1) hC hR (fun _ _ _ => rfl)
