/-! CHANGES of the class beside an Own -/
section OwMem
variable {w : Nat} {σ τ ω M : Mem}
theorem ow_put (hw : is_ow w) {c : Nat} (h : c + 21 ≤ 276) : put c σ (ow w ω M) = ow w ω (put c σ M) := by
  have hw' : 276 ≤ w := by rcases hw with h | h <;> omega
  funext b j
  unfold put ow
  by_cases h1 : c ≤ b ∧ b < c + 21
  · rw [if_pos h1, if_neg (by omega)]
    exact (if_pos h1).symm
  · rw [if_neg h1]
    by_cases h2 : w ≤ b ∧ b < w + 17
    · rw [if_pos h2, if_pos h2]
    · rw [if_neg h2, if_neg h2]
      exact (if_neg h1).symm
theorem su_ow (hw : is_ow w) : su (ow w ω M) = su M := by
  have hw' : 276 ≤ w := by rcases hw with h | h <;> omega
  funext r j
  unfold su
  by_cases h : r < 5
  · rw [if_pos h, if_pos h]; exact ow_o (by omega)
  · rw [if_neg h, if_neg h]
theorem ow_lo (hw : is_ow w) {b j : Nat} (h : b < 276) : ow w ω M b j = M b j := by
  have hw' : 276 ≤ w := by rcases hw with h | h <;> omega
  exact ow_o (by omega)
theorem hst_ow (hw : is_ow w) {n : Nat} (hn : n < 8) : hst (ow w ω M) n τ = ow w ω (hst M n τ) := by
  have hw' : 276 ≤ w := by rcases hw with h | h <;> omega
  unfold hst
  rw [ow_put hw (by omega), ow_wo (by omega), ow_wo (by omega), ow_lo hw (by decide)]
theorem su_put20 : su (put 20 σ M) = su M := su_put (by decide)
end OwMem
section Changes
variable {w : Nat} {Q : Option Value → Mem → Prop} {X : String → Mem → Prop} {σ ω M : Mem} {n : Nat}
/-- what a change finds -/
def HB (M σ : Mem) (n : Nat) : Prop := n < 8 ∧ M 62 1 = n ∧ (0 ≤ M 62 2 ∧ M 62 2 ≤ 8) ∧ wfS (su M) ∧ wfC (su M) σ
theorem HB.hn (h : HB M σ n) : n < 8 := h.1
theorem HB.h1 (h : HB M σ n) : M 62 1 = n := h.2.1
theorem HB.h2 (h : HB M σ n) : 0 ≤ M 62 2 ∧ M 62 2 ≤ 8 := h.2.2.1
theorem HB.hS (h : HB M σ n) : wfS (su M) := h.2.2.2.1
theorem HB.hC (h : HB M σ n) : wfC (su M) σ := h.2.2.2.2
theorem HB.ow (hw : is_ow w) (h : HB M σ n) : HB (ow w ω M) σ n :=
  ⟨h.hn, by rw [ow_lo hw (by decide)]; exact h.h1, by rw [ow_lo hw (by decide)]; exact h.h2, by rw [su_ow hw]; exact h.hS, by rw [su_ow hw]; exact h.hC⟩
theorem r_propose (hw : is_ow w) (h : HB M σ n) {m x : Int} (hm : rng m) (hx : rng x) (g0 : rfMo (su M) σ m x = 0)
    (K : ∀ τ, eqC τ σ → Q (some (.int (iI (σ 5 0)))) (ow w ω (put 20 (amo (su M) σ m x) (hst M n τ)))) : mt 276 7 0 0 mX10_propose [.ref 0, .int (iI m), .int (iI x)] Q X (ow w ω (put 20 σ M)) := by
  have g := h.ow (ω := ω) hw
  refine mt_mem (ow_put hw (by decide)).symm (h_propose hm hx g.hn g.h1 g.h2 g.hS g.hC (by rw [su_ow hw]; exact g0) (fun _ τ e => ?_))
  rw [su_ow hw, hst_ow hw h.hn, ow_put hw (by decide)]
  exact K τ e
theorem r_request (hw : is_ow w) (h : HB M σ n) {m q : Nat} {f : Int} (hm : (m : Int) < su M 0 7) (hq : (q : Int) < σ 5 0) (hf : rng f) (g0 : rfRq (su M) σ m q = 0)
    (K : ∀ τ, eqC τ σ → Q (some (.int (iI (σ 11 0)))) (ow w ω (put 20 (rad σ m q (if f = 0 then -1 else 1)) (hst M n τ)))) : mt 276 7 0 0 mX10_request [.ref 0, .int (iI (m : Nat)), .int (iI (q : Nat)), .int (iI f)] Q X (ow w ω (put 20 σ M)) := by
  have g := h.ow (ω := ω) hw
  have n1 := wf_n h.hS
  have r1 := wf_r h.hS h.hC
  refine mt_mem (ow_put hw (by decide)).symm (h_request (by omega) (by omega) hf g.hn g.h1 g.h2 g.hS g.hC (by rw [su_ow hw]; exact g0) (fun k j e1 e2 _ _ _ τ e => ?_))
  have f1 : k = m := by omega
  have f2 : j = q := by omega
  subst f1 f2
  rw [hst_ow hw h.hn, ow_put hw (by decide)]
  exact K τ e
theorem r_rebut (hw : is_ow w) (h : HB M σ n) {m k : Nat} (hm : (m : Int) < su M 0 7) (hk : (k : Int) < su M 0 0) (g0 : rfRb (su M) σ m k = 0)
    (K : ∀ τ, eqC τ σ → Q (some (.int (iI (frm (su M) (reb σ k))))) (ow w ω (put 20 (reb σ k) (hst M n τ)))) : mt 276 7 0 0 mX10_rebut [.ref 0, .int (iI (m : Nat)), .int (iI (k : Nat))] Q X (ow w ω (put 20 σ M)) := by
  have g := h.ow (ω := ω) hw
  have n1 := wf_n h.hS
  refine mt_mem (ow_put hw (by decide)).symm (h_rebut (by omega) (by omega) g.hn g.h1 g.h2 g.hS g.hC (by rw [su_ow hw]; exact g0) (fun j e1 _ _ τ e => ?_))
  have f1 : j = k := by omega
  subst f1
  rw [su_ow hw, hst_ow hw h.hn, ow_put hw (by decide)]
  exact K τ e
theorem r_vote (hw : is_ow w) (h : HB M σ n) {q : Nat} (hq : (q : Int) < σ 5 0) (g0 : rfVt (su M) σ q = 0)
    (K : ∀ τ, eqC τ σ → Q (some (.int (iI (bI (0 < mgn (su M) σ q))))) (ow w ω (put 20 (hvo (su M) σ q) (hst M n τ)))) : mt 276 7 0 0 mX10_vote [.ref 0, .int (iI (q : Nat))] Q X (ow w ω (put 20 σ M)) := by
  have g := h.ow (ω := ω) hw
  have r1 := wf_r h.hS h.hC
  refine mt_mem (ow_put hw (by decide)).symm (h_vote (by omega) g.hn g.h1 g.h2 g.hS g.hC (by rw [su_ow hw]; exact g0) (fun j e1 _ _ τ e => ?_))
  have f1 : j = q := by omega
  subst f1
  rw [su_ow hw, hst_ow hw h.hn, ow_put hw (by decide)]
  exact K τ e
theorem r_withdraw (hw : is_ow w) (h : HB M σ n) {q : Nat} (hq : (q : Int) < σ 5 0) (g0 : rfWd σ q = 0)
    (K : ∀ τ, eqC τ σ → Q (some (.int (iI (σ 11 0 - clo σ q 3 11 0)))) (ow w ω (put 20 (clo σ q 3) (hst M n τ)))) : mt 276 7 0 0 mX10_withdraw [.ref 0, .int (iI (q : Nat))] Q X (ow w ω (put 20 σ M)) := by
  have g := h.ow (ω := ω) hw
  have r1 := wf_r h.hS h.hC
  refine mt_mem (ow_put hw (by decide)).symm (h_withdraw (by omega) g.hn g.h1 g.h2 g.hS g.hC g0 (fun j e1 _ _ τ e => ?_))
  have f1 : j = q := by omega
  subst f1
  rw [hst_ow hw h.hn, ow_put hw (by decide)]
  exact K τ e
theorem r_sharpen (hw : is_ow w) (h : HB M σ n) {m : Nat} (hm : (m : Int) < su M 0 7) (g0 : rfSh (su M) σ m = 0)
    (K : ∀ τ, eqC τ σ → Q (some (.int (iI (σ 2 m - 2)))) (ow w ω (put 20 (shp5 σ m) (hst M n τ)))) : mt 276 7 0 0 mX10_sharpen [.ref 0, .int (iI (m : Nat))] Q X (ow w ω (put 20 σ M)) := by
  have g := h.ow (ω := ω) hw
  have n1 := wf_n h.hS
  refine mt_mem (ow_put hw (by decide)).symm (h_sharpen (by omega) g.hn g.h1 g.h2 g.hS g.hC (by rw [su_ow hw]; exact g0) (fun j e1 _ _ τ e => ?_))
  have f1 : j = m := by omega
  subst f1
  rw [hst_ow hw h.hn, ow_put hw (by decide)]
  exact K τ e
theorem r_setRanking (hw : is_ow w) (h : HB M σ n) {v : Int} (hv : 0 ≤ v ∧ v ≤ 3)
    (K : ∀ τ, eqC τ σ → Q (some (.int (iI (σ 0 6)))) (ow w ω (put 20 (wr σ 0 6 v) (hst M n τ)))) : mt 276 7 0 0 mX10_setRanking [.ref 0, .int (iI v)] Q X (ow w ω (put 20 σ M)) := by
  have g := h.ow (ω := ω) hw
  refine mt_mem (ow_put hw (by decide)).symm (h_setRanking (by omega) g.hn g.h1 g.h2 g.hS g.hC (if_neg (by omega)) (fun _ τ e => ?_))
  rw [hst_ow hw h.hn, ow_put hw (by decide)]
  exact K τ e
theorem r_advance (hw : is_ow w) (h : HB M σ n) {k : Nat} (hk : 1 ≤ k ∧ k ≤ 60) (ht : 0 ≤ σ 0 5 ∧ σ 0 5 ≤ 9000)
    (K : ∀ τ, eqC τ σ → Q (some (.int (iI ((pms (su M) σ k).2)))) (ow w ω (put 20 ((pms (su M) σ k).1) (hst M n τ)))) : mt 276 7 0 0 mX10_advance [.ref 0, .int (iI (k : Nat))] Q X (ow w ω (put 20 σ M)) := by
  have g := h.ow (ω := ω) hw
  have g0 : rfWt σ (k : Nat) = 0 := by
    unfold rfWt
    rw [if_neg (by omega), wp_of (by omega), if_neg (by omega)]
  refine mt_mem (ow_put hw (by decide)).symm (h_advance (by omega) g.hn g.h1 g.h2 g.hS g.hC g0 (fun j e1 _ _ τ e => ?_))
  have f1 : j = k := by omega
  subst f1
  rw [su_ow hw, hst_ow hw h.hn, ow_put hw (by decide)]
  exact K τ e
end Changes
/-! OWN after a change -/
theorem own_rad {S s ω : Mem} {m q k : Nat} {f : Int} (hR : own S s ω) (hk : s 11 0 = k) (hf : f = 0 ∨ f = 1) : own S (rad s m q (if f = 0 then -1 else 1)) (wr ω 14 k (1 + m + 16 * q + (if f = 0 then 0 else 256))) := by
  have e12 : (s 11 0).toNat = k := by omega
  have o (r j : Nat) (h : r < 11 ∨ 14 < r) : rad s m q (if f = 0 then -1 else 1) r j = s r j := by
    unfold rad
    rw [wr_na (by omega), wr_na (by omega), wr_na (by omega), wr_na (by omega)]
  have o11 : rad s m q (if f = 0 then -1 else 1) 11 0 = s 11 0 + 1 := wr_s _ _ _ _
  have oj (r : Nat) (h : r ≠ k) : rad s m q (if f = 0 then -1 else 1) 12 r = s 12 r ∧ rad s m q (if f = 0 then -1 else 1) 13 r = s 13 r ∧ rad s m q (if f = 0 then -1 else 1) 14 r = s 14 r := by
    unfold rad
    rw [e12]
    exact ⟨by rw [wr_na (by decide), wr_na (by decide), wr_na (by decide), wr_ni h], by rw [wr_na (by decide), wr_na (by decide), wr_ni h, wr_na (by decide)], by rw [wr_na (by decide), wr_ni h, wr_na (by decide), wr_na (by decide)]⟩
  have ok : rad s m q (if f = 0 then -1 else 1) 12 k = m ∧ rad s m q (if f = 0 then -1 else 1) 13 k = q ∧ rad s m q (if f = 0 then -1 else 1) 14 k = (if f = 0 then -1 else 1) := by
    unfold rad
    rw [e12]
    exact ⟨by rw [wr_na (by decide), wr_na (by decide), wr_na (by decide), wr_s], by rw [wr_na (by decide), wr_na (by decide), wr_s], by rw [wr_na (by decide), wr_s]⟩
  obtain ⟨a, b, c, d, e, g⟩ := hR
  refine ⟨?_, fun i hi => ?_, fun i hi => ?_, fun i hi h16 => ?_, fun i hi => ?_, fun i hi => ?_⟩
  · rw [o 0 5 (by decide), o 5 0 (by decide), o 0 6 (by decide), o 0 7 (by decide), o 0 8 (by decide), o 0 9 (by decide)]
    exact a
  · rw [o 2 i (by decide), o 3 i (by decide), o 4 i (by decide)]
    exact b i hi
  · rw [o 5 0 (by decide)] at hi
    rw [o 6 i (by decide), o 7 i (by decide), o 8 i (by decide), o 9 i (by decide)]
    have := c i hi
    exact ⟨this.1, this.2.1, this.2.2.1, this.2.2.2.1, fun m9 hm => by unfold ln; rw [o 10 _ (by decide)]; exact this.2.2.2.2 m9 hm⟩
  · rw [o 5 0 (by decide)] at hi
    exact d i hi h16
  · rw [o 16 i (by decide), o 17 i (by decide), o 18 i (by decide), o 19 i (by decide), o 20 i (by decide)]
    exact e i hi
  · rw [o11]
    by_cases h : i = k
    · subst h
      rw [wr_s, if_pos (show (i : Int) < s 11 0 + 1 by omega)]
      unfold rqv
      rw [ok.1, ok.2.1, ok.2.2]
      rcases hf with hf | hf <;> subst hf <;> simp
    · rw [wr_ni h, g i hi]
      by_cases h2 : (i : Int) < s 11 0
      · rw [if_pos h2, if_pos (by omega)]
        exact rqv_c ⟨(oj i h).1.symm, (oj i h).2.1.symm, (oj i h).2.2.symm⟩
      · rw [if_neg h2, if_neg (by omega)]
theorem own_20 {S s ω : Mem} {h : Nat} {v : Int} (hR : own S s ω) : own S (wr s 20 h v) (wr ω 16 h v) := by
  obtain ⟨a, b, c, d, e, f⟩ := hR
  refine ⟨a, b, c, d, fun i hi => ?_, f⟩
  have := e i hi
  by_cases g : i = h
  · subst g; rw [wr_s, wr_s]; exact ⟨this.1, fun w => ⟨(this.2 w).1, (this.2 w).2.1, (this.2 w).2.2.1, rfl⟩⟩
  · exact ⟨this.1, fun w => ⟨(this.2 w).1, (this.2 w).2.1, (this.2 w).2.2.1, ((wr_ni g).trans (this.2 w).2.2.2).trans (wr_ni g).symm⟩⟩
theorem own_reb {S s ω : Mem} {h : Nat} (hR : own S s ω) : own S (reb s h) (wr (wr ω 16 h 1) 0 13 (wp (wr ω 16 h 1 0 13 + 1))) := by
  have e : wr ω 16 h 1 0 13 = wr s 20 h 1 0 9 := by rw [wr_na (by decide), wr_na (by decide)]; exact hR.1.2.2.2.2.2.2.2.2.2.2.2.2.2
  unfold reb
  rw [e]
  exact own_n9 (own_20 hR)
theorem lim_c {S s t : Mem} {N : Int} (h : lim S s N) (e : ∀ m, t 4 m = s 4 m) : lim S t N := fun m hm => by rw [e]; exact h m hm
theorem pek_05 {S s : Mem} : ∀ k : Nat, (pek S s k).1 0 5 = s 0 5
  | 0 => rfl
  | k + 1 => by
    rw [pek]
    split
    · exact pek_05 k
    · split
      · show esp S _ k 0 5 = _
        rw [esp_o (by decide), wr_na (by decide)]
        exact pek_05 k
      · show wr (pek S s k).1 19 k (wp ((pek S s k).1 19 k - 1)) 0 5 = _
        rw [wr_na (by decide)]
        exact pek_05 k
theorem pfk_05 {S s : Mem} : ∀ k : Nat, pfk S s k 0 5 = s 0 5
  | 0 => rfl
  | k + 1 => by
    rw [pfk]
    split
    · rw [spk_o (by decide)]; exact pfk_05 k
    · exact pfk_05 k
theorem pm1_05 {S s : Mem} : pm1 S s 0 5 = wp (s 0 5 + 1) := by
  unfold pm1
  split
  · rw [dry_o (by decide), wr_s]
  · rw [wr_s]
theorem pmn_05 {S s : Mem} : pmn S s 0 5 = wp (s 0 5 + 1) := by
  unfold pmn
  rw [pfk_05, pek_05, pm1_05]
theorem pms_z {S s : Mem} (hS : wfS S) (hC : wfC S s) (hZ : zro S s) {N : Int} (hL : lim S s N) (hN : N ≤ 900000) (h5 : 0 ≤ s 0 5 ∧ s 0 5 ≤ 1000000) : ∀ k : Nat, k ≤ 400 → wfC S (pms S s k).1 ∧ zro S (pms S s k).1 ∧ lim S (pms S s k).1 (N + 4 * k) ∧ (pms S s k).1 0 5 = s 0 5 + k
  | 0, _ => ⟨hC, hZ, fun m hm => by have := hL m hm; show 0 ≤ s 4 m ∧ s 4 m ≤ N + 4 * ((0 : Nat) : Int); omega, by show s 0 5 = s 0 5 + ((0 : Nat) : Int); omega⟩
  | k + 1, hk => by
    obtain ⟨a, b, c, d⟩ := pms_z hS hC hZ hL hN h5 k (by omega)
    refine ⟨wf_pmn hS a, zro_pmn hS a b, fun m hm => ?_, ?_⟩
    · have := lim_pmn hS c (by omega) m hm
      show 0 ≤ pmn S (pms S s k).1 4 m ∧ pmn S (pms S s k).1 4 m ≤ N + 4 * ((k + 1 : Nat) : Int)
      omega
    · show pmn S (pms S s k).1 0 5 = _
      rw [pmn_05, d, wp_of (by omega)]
      omega
theorem wr_cm {μ : Mem} {a i b j : Nat} {u v : Int} (h : a ≠ b) : wr (wr μ a i u) b j v = wr (wr μ b j v) a i u := by
  funext r k
  unfold wr
  by_cases h1 : r = b ∧ k = j
  · rw [if_pos h1, if_neg (by omega), if_pos h1]
  · rw [if_neg h1]
    by_cases h2 : r = a ∧ k = i
    · rw [if_pos h2, if_pos h2]
    · rw [if_neg h2, if_neg h2, if_neg h1]
theorem own_shp5 {S s ω : Mem} {m : Nat} {v : Int} (hR : own S s ω) : own S (shp5 s m) (wr (wr (wr ω 4 m 5) 3 m (s 2 m - 2)) 0 14 v) := by
  unfold shp5
  exact own_n10 (own_x (by rw [wr_cm (by decide)]; exact own_s3 (own_s2 hR)) (by decide))
theorem own_am0 {S s ω : Mem} {q : Nat} {m : Int} (hq : s 5 0 = q) (hR : own S s ω) : own S (am0 s m q) (wr ω 6 q m) := by
  obtain ⟨a, b, c, d, e, f⟩ := hR
  have o (r j : Nat) (h : (r < 6 ∨ 9 < r) ∨ j ≠ q) : am0 s m q r j = s r j := by
    unfold am0
    rw [wr_n (by omega), wr_n (by omega), wr_n (by omega), wr_n (by omega)]
  refine ⟨?_, fun i hi => ?_, fun i hi => ?_, fun i hi h16 => ?_, fun i hi => ?_, fun i hi => ?_⟩
  · rw [o 0 5 (by omega), o 5 0 (by omega), o 0 6 (by omega), o 0 7 (by omega), o 0 8 (by omega), o 0 9 (by omega)]
    exact a
  · rw [o 2 i (by omega), o 3 i (by omega), o 4 i (by omega)]
    exact b i hi
  · rw [o 5 0 (by omega)] at hi
    have hne : i ≠ q := by omega
    rw [o 6 i (by omega), o 7 i (by omega), o 8 i (by omega), o 9 i (by omega), wr_ni hne]
    have := c i hi
    exact ⟨this.1, this.2.1, this.2.2.1, this.2.2.2.1, fun m9 hm => by unfold ln; rw [o 10 _ (by omega)]; exact this.2.2.2.2 m9 hm⟩
  · rw [o 5 0 (by omega)] at hi
    exact d i hi h16
  · rw [o 16 i (by omega), o 17 i (by omega), o 18 i (by omega), o 19 i (by omega), o 20 i (by omega)]
    exact e i hi
  · rw [o 11 0 (by omega)]
    by_cases h2 : (i : Int) < s 11 0
    · rw [if_pos h2, wr_na (by decide), f i hi, if_pos h2]
      exact rqv_c ⟨(o 12 i (by omega)).symm, (o 13 i (by omega)).symm, (o 14 i (by omega)).symm⟩
    · rw [if_neg h2, wr_na (by decide), f i hi, if_neg h2]
theorem own_amf {S t ω : Mem} {q : Nat} (hq : t 5 0 = q) (hR : own S t ω) (hq16 : q < 16) (h6 : ω 6 q = t 6 q) (h7 : t 7 q = 0 ∧ t 8 q = 0 ∧ t 9 q = 0) (hl : ∀ i : Nat, (i : Int) < S 0 7 → ω 10 (16 * i + q) = ln t i q) : own S (wr t 5 0 (q + 1)) (wr ω 0 9 (q + 1)) := by
  obtain ⟨a, b, c, d, e, f⟩ := hR
  refine ⟨?_, fun i hi => b i hi, fun i hi => ?_, fun i hi h16 => ?_, fun i hi => e i hi, fun i hi => ?_⟩
  · obtain ⟨a0, a1, a2, a3, a4, a5, a6, a7, a8, a9, a10, a11, a12, a13⟩ := a
    exact ⟨a0, a1, a2, a3, a4, a5, a6, a7, a8, by rw [wr_s, wr_s], a10, a11, a12, a13⟩
  · rw [wr_s] at hi
    by_cases g : i = q
    · subst g
      have d9 := d i (by omega) hq16
      exact ⟨h6, by rw [wr_na (by decide), wr_na (by decide), d9.1, h7.2.1], by rw [wr_na (by decide), wr_na (by decide), d9.2.1, h7.1], by rw [wr_na (by decide), wr_na (by decide), d9.2.2, h7.2.2], hl⟩
    · exact c i (by omega)
  · rw [wr_s] at hi
    exact d i (by omega) h16
  · have := f i hi
    rw [wr_na (by decide), wr_na (by decide), this]
    split
    · exact rqv_c ⟨(wr_na (by decide)).symm, (wr_na (by decide)).symm, (wr_na (by decide)).symm⟩
    · rfl
theorem hvk_05 {s : Mem} {q : Nat} {w : Int} : ∀ k, hvk s q w k 0 5 = s 0 5
  | 0 => rfl
  | k + 1 => by
    rw [hvk]
    unfold hv2
    split
    · rw [wr_ni (by decide), wr_na (by decide), hv1_o (by decide)]; exact hvk_05 k
    · rw [hv1_o (by decide)]; exact hvk_05 k
theorem hvo_05 {S s : Mem} {q : Nat} : hvo S s q 0 5 = s 0 5 := by
  unfold hvo clo
  rw [wr_ni (by decide), cab_o (by decide), wr_na (by decide), hvk_05]
theorem hvo_4 {S s : Mem} {q m : Nat} : hvo S s q 4 m = s 4 m := by
  unfold hvo clo
  rw [wr_na (by decide), cab_o (by decide), wr_na (by decide), hvk_o (by decide)]
/-! what GD becomes -/
section GDs
variable {S s ω : Mem} {T : Int}
theorem gd_of {t ω' : Mem} (h : GD S s ω T) (hC : wfC S t) (hR : own S t ω') (hZ : zro S t) (h4 : ∀ m, t 4 m = s 4 m) (h5 : t 0 5 = s 0 5) : GD S t ω' T :=
  ⟨hC, hR, hZ, lim_c h.2.2.2.1 h4, by rw [h5]; exact h.2.2.2.2.1, by rw [h5]; exact h.2.2.2.2.2⟩
theorem gd_rad (hS : wfS S) (h : GD S s ω T) {m q k : Nat} {f : Int} (hk : s 11 0 = k) (hf : f = 0 ∨ f = 1) (hm : (m : Int) < S 0 7) (hq : (q : Int) < s 5 0) (h7 : s 7 q = 0) (hp : plc s m = -1) (ht : tkn s m = -1) : GD S (rad s m q (if f = 0 then -1 else 1)) (wr ω 14 k (1 + m + 16 * q + (if f = 0 then 0 else 256))) T :=
  gd_of h (wf_rad hS h.1 hm hq (by rcases hf with hf | hf <;> subst hf <;> simp) hp) (own_rad h.2.1 hk hf) (zro_rad h.1 h.2.2.1 h7 ht) (fun i => by unfold rad; rw [wr_na (by decide), wr_na (by decide), wr_na (by decide), wr_na (by decide)]) (by unfold rad; rw [wr_na (by decide), wr_na (by decide), wr_na (by decide), wr_na (by decide)])
theorem gd_reb (hS : wfS S) (h : GD S s ω T) {c : Nat} (hc : (c : Int) < S 0 0) (ho : s 16 c ≠ -1) (h20 : s 20 c ≤ 0) (hf : 0 < frm S s) : GD S (reb s c) (wr (wr ω 16 c 1) 0 13 (wp (wr ω 16 c 1 0 13 + 1))) T :=
  gd_of h (wf_reb hS h.1 hc ho h20 hf) (own_reb h.2.1) (zro_reb h.1 h.2.2.1) (fun i => by unfold reb; rw [wr_na (by decide), wr_na (by decide)]) (by unfold reb; rw [wr_ni (by decide), wr_na (by decide)])
theorem gd_hvo (hS : wfS S) (h : GD S s ω T) {q : Nat} {ω' : Mem} (hq : (q : Int) < s 5 0) (h7 : s 7 q = 0) (hR : own S (hvo S s q) ω') : GD S (hvo S s q) ω' T :=
  gd_of h (wf_hvo hS h.1) hR (zro_hvo hS h.1 h.2.2.1 hq h7) (fun i => hvo_4) hvo_05
theorem gd_wd (hS : wfS S) (h : GD S s ω T) {q : Nat} {ω' : Mem} (hq : (q : Int) < s 5 0) (h7 : s 7 q = 0) (hR : own S (clo s q 3) ω') : GD S (clo s q 3) ω' T :=
  gd_of h (wf_clo h.1 (by decide)) hR (zro_wd hS h.1 h.2.2.1 hq h7) (fun i => by unfold clo; rw [cab_o (by decide), wr_na (by decide)]) (by unfold clo; rw [cab_o (by decide), wr_na (by decide)])
theorem gd_shp (hS : wfS S) (h : GD S s ω T) {m : Nat} {v : Int} (hm : (m : Int) < S 0 7) (h2 : 2 ≤ s 2 m) : GD S (shp5 s m) (wr (wr (wr ω 4 m 5) 3 m (s 2 m - 2)) 0 14 v) T :=
  gd_of h (wf_shp5 h.1 hm h2) (own_shp5 h.2.1) (zro_shp5 hS h.1 h.2.2.1 hm) (fun i => by unfold shp5; rw [wr_na (by decide), wr_na (by decide), wr_na (by decide)]) (by unfold shp5; rw [wr_ni (by decide), wr_na (by decide), wr_na (by decide)])
theorem gd_rk (h : GD S s ω T) {v : Int} (hv : 0 ≤ v ∧ v ≤ 3) : GD S (wr s 0 6 v) (wr ω 0 10 v) T :=
  gd_of h (wf_w h.1 (by omega)) (own_n6 h.2.1) (zro_rk h.1 h.2.2.1) (fun i => wr_na (by decide)) (wr_ni (by decide))
theorem gd_amo (hS : wfS S) (h : GD S s ω T) {m : Nat} {x : Int} {ω' : Mem} (h16 : s 5 0 < 16) (hm : (m : Int) < S 0 7) (hR : own S (amo S s m x) ω') : GD S (amo S s m x) ω' T :=
  gd_of h (wf_amo h.1 (wf_n hS).2.1 h16 ⟨by omega, hm⟩) hR (zro_amo h.1 h.2.2.1 h16) (fun i => by unfold amo am0; rw [wr_na (by decide), amk_o (by decide), wr_na (by decide), wr_na (by decide), wr_na (by decide), wr_na (by decide)]) (by unfold amo am0; rw [wr_na (by decide), amk_o (by decide), wr_na (by decide), wr_na (by decide), wr_na (by decide), wr_na (by decide)])
end GDs
