/-! THE LAW's forecasts -/
section ReadOwn
variable {z w : Nat} {Q : Option Value → Mem → Prop} {X : String → Mem → Prop} {S s ν : Mem}
theorem s_listed (hw : is_ow w) (hz : w + 17 ≤ z) (hS : wfS S) (hC : wfC S s) (hR : own S s (vw w ν)) {m : Int} (hm : rng m) (K : ∀ v, v = plc s m → -1 ≤ v ∧ v < 12 → Q (some (.int (iI v))) ν) : mt z 1 0 0 mX11_listed [.ref w, .int (iI m)] Q X ν :=
  mt_ow w (o_listed hw hz hS hC hR hm (fun v h1 h2 => by rw [ow_v]; exact K v h1 h2))
theorem s_obstacle (hw : is_ow w) (hz : w + 17 ≤ z) (hS : wfS S) (hC : wfC S s) (hR : own S s (vw w ν)) {q : Nat} (hq : (q : Int) < s 5 0) (K : ∀ v, v = obs S s q → 0 ≤ v ∧ v ≤ 4 → Q (some (.int (iI v))) ν) : mt z 3 0 0 mX11_obstacle [.ref w, .int (iI (q : Nat))] Q X ν :=
  mt_ow w (o_obstacle hw hz hS hC hR hq (fun v h1 h2 => by rw [ow_v]; exact K v h1 h2))
theorem s_minutes (hw : is_ow w) (hz : w + 17 ≤ z) (hS : wfS S) (hC : wfC S s) (hR : own S s (vw w ν)) {N : Int} (hL : lim S s N) (hN : N ≤ 1000000) (K : ∀ ω', own S (pmn S s) ω' → Q none (ow w ω' ν)) : mt z 4 0 0 mX11_minutes [.ref w] Q X ν :=
  mt_ow w (o_minutes hw hz hS hC hR hL hN (fun ω' h1 _ _ => K ω' h1))
end ReadOwn
theorem own_cg {S s ω ω' : Mem} (h : own S s ω) (e : ∀ r j, r < 17 → ω' r j = ω r j) : own S s ω' := by
  obtain ⟨a, b, c, d, f, g⟩ := h
  refine ⟨?_, fun i hi => ?_, fun i hi => ?_, fun i h1 h2 => ?_, fun i hi => ?_, fun i hi => ?_⟩
  · simp only [e _ _ (show 0 < 17 by decide)]; exact a
  · rw [e 1 _ (by decide), e 2 _ (by decide), e 3 _ (by decide), e 4 _ (by decide), e 5 _ (by decide)]; exact b i hi
  · rw [e 6 _ (by decide), e 7 _ (by decide), e 8 _ (by decide), e 9 _ (by decide)]
    have := c i hi
    exact ⟨this.1, this.2.1, this.2.2.1, this.2.2.2.1, fun m hm => by rw [e 10 _ (by decide)]; exact this.2.2.2.2 m hm⟩
  · rw [e 7 _ (by decide), e 8 _ (by decide), e 9 _ (by decide)]; exact d i h1 h2
  · rw [e 11 _ (by decide), e 12 _ (by decide), e 13 _ (by decide), e 15 _ (by decide), e 16 _ (by decide)]; exact f i hi
  · rw [e 14 _ (by decide)]; exact g i hi
/-- what a forecast leaves: the class's chamber and the first Own -/
def FI (S σ ν : Mem) : Prop := su ν = S ∧ eqC (vw 20 ν) σ ∧ own S σ (vw 276 ν)
theorem FI_41 {S σ ν τ : Mem} (h : FI S σ ν) : FI S σ (put 41 τ ν) :=
  ⟨(su_put (by decide)).trans h.1, eqC_tr (eq_po (by omega)) h.2.1, own_cg h.2.2 (fun r j hr => put_o (by omega))⟩
theorem FI_wr {S σ ν : Mem} {a i : Nat} {v : Int} (ha : 293 ≤ a) (h : FI S σ ν) : FI S σ (wr ν a i v) :=
  ⟨(su_wr (by omega)).trans h.1, eqC_tr (eq_wo (by omega)) h.2.1, own_cg h.2.2 (fun r j hr => wr_na (by omega))⟩
theorem FI_ow {S σ ν ω : Mem} (h : FI S σ ν) : FI S σ (ow 293 ω ν) :=
  ⟨(su_ow (Or.inr rfl)).trans h.1, eqC_tr (eqC_of (fun r j hr => ow_o (by omega))) h.2.1, own_cg h.2.2 (fun r j hr => ow_o (by omega))⟩
section QF
variable {Q : Option Value → Mem → Prop} {X : String → Mem → Prop} {S σ ν : Mem}
theorem put_41 {τ : Mem} : put 20 (vw 20 ν) (put 41 τ ν) = put 41 τ ν := by
  rw [← put_c (by decide), pvw]
theorem q_latherAfter (hS : wfS S) (hC : wfC S σ) (hF : FI S σ ν) {k n : Nat} (hk : (k : Int) < σ 5 0) (hn : n ≤ 300) (K : ∀ τ', Q (some (.int (iI ((pms S σ n).1 8 k)))) (put 41 τ' ν)) : mt 276 7 0 0 mX10_latherAfter [.ref 0, .int (iI (k : Nat)), .int (iI (n : Nat))] Q X ν := by
  have r1 := wf_r hS hC
  have hS' : wfS (su ν) := by rw [hF.1]; exact hS
  have hC' : wfC (su ν) (vw 20 ν) := by rw [hF.1]; exact wf_eq hS hC hF.2.1
  have e5 : (vw 20 ν) 5 0 = σ 5 0 := hF.2.1.1.1
  refine to_c (h_latherAfter (by omega) (by omega) hS' hC' ⟨by omega, by omega⟩ ⟨by omega, by omega⟩ (fun k' n' e1 e2 _ _ τ τ' e => ?_))
  have f1 : k' = k := by omega
  have f2 : n' = n := by omega
  subst f1 f2
  rw [hF.1, eqR_8 hS hC (eqC_tr e hF.2.1) n' (by omega), put_41]
  exact K τ'
theorem q_minutesUntilVote (hS : wfS S) (hC : wfC S σ) (hF : FI S σ ν) {k : Nat} (hk : (k : Int) < σ 5 0) (K : ∀ τ', Q (some (.int (iI (mvk S σ k 301 0)))) (put 41 τ' ν)) : mt 276 7 0 0 mX10_minutesUntilVote [.ref 0, .int (iI (k : Nat))] Q X ν := by
  have r1 := wf_r hS hC
  have hS' : wfS (su ν) := by rw [hF.1]; exact hS
  have hC' : wfC (su ν) (vw 20 ν) := by rw [hF.1]; exact wf_eq hS hC hF.2.1
  have e5 : (vw 20 ν) 5 0 = σ 5 0 := hF.2.1.1.1
  refine to_c (h_minutesUntilVote (by omega) hS' hC' ⟨by omega, by omega⟩ (fun k' e1 _ τ τ' e => ?_))
  have f1 : k' = k := by omega
  subst f1
  rw [hF.1, mvk_eq hS hC (eqC_tr e hF.2.1) hk, put_41]
  exact K τ'
theorem q_minutesUntilSpeech (hS : wfS S) (hC : wfC S σ) (hF : FI S σ ν) {m : Nat} (hm : (m : Int) < S 0 7) (K : ∀ ν' v, (ν' = ν ∨ ∃ τ', ν' = put 41 τ' ν) → (plc σ m = -1 → v = -1) → (plc σ m ≠ -1 → v = msk S σ m 300 1) → Q (some (.int (iI v))) ν') : mt 276 7 0 0 mX10_minutesUntilSpeech [.ref 0, .int (iI (m : Nat))] Q X ν := by
  have r1 := wf_r hS hC
  have n1 := wf_n hS
  have hS' : wfS (su ν) := by rw [hF.1]; exact hS
  have hC' : wfC (su ν) (vw 20 ν) := by rw [hF.1]; exact wf_eq hS hC hF.2.1
  have ep : plc (vw 20 ν) m = plc σ m := plc_eq hF.2.1 (by omega)
  refine to_c (h_minutesUntilSpeech (by omega) hS' hC' (by rw [hF.1]; exact ⟨by omega, hm⟩) (fun k' e1 _ hp => ?_) (fun k' e1 _ hp τ τ' e => ?_))
  · have f1 : k' = m := by omega
    subst f1
    rw [pvw]
    rw [ep] at hp
    exact K ν (-1) (Or.inl rfl) (fun _ => rfl) (fun w => absurd hp w)
  · have f1 : k' = m := by omega
    subst f1
    rw [ep] at hp
    rw [hF.1, msk_eq hS hC (eqC_tr e hF.2.1), put_41]
    exact K _ _ (Or.inr ⟨τ', rfl⟩) (fun w => absurd w hp) (fun _ => rfl)
end QF
/-- the minute when m comes to speak, as the law counts it; 0 for none -/
def spf (S σ : Mem) (m : Int) : Nat → Nat
  | 0 => 0
  | k + 1 => if spf S σ m k = 0 ∧ plc σ m ≠ -1 ∧ plc (pms S σ k).1 m = -1 then k else spf S σ m k
theorem spf_0 {S σ : Mem} {m : Int} (h : plc σ m = -1) : ∀ k, spf S σ m k = 0
  | 0 => rfl
  | k + 1 => by rw [spf, if_neg (fun w => w.2.1 h)]; exact spf_0 h k
theorem spf_st {S σ : Mem} {m : Int} {k : Nat} (h : spf S σ m k ≠ 0) : ∀ j, spf S σ m (k + j) = spf S σ m k
  | 0 => rfl
  | j + 1 => by
    show spf S σ m (k + j + 1) = _
    rw [spf, spf_st h j, if_neg (fun w => h w.1)]
theorem spf_b {S σ : Mem} {m : Int} : ∀ k, spf S σ m k ≤ k
  | 0 => Nat.le_refl 0
  | k + 1 => by
    have := spf_b (S := S) (σ := σ) (m := m) k
    rw [spf]
    split <;> omega
theorem spf_msk {S σ : Mem} {m : Int} (h : plc σ m ≠ -1) : ∀ j p : Nat, 1 ≤ p → spf S σ m p = 0 → msk S σ m j p = (if spf S σ m (p + j) = 0 then -1 else (spf S σ m (p + j) : Int))
  | 0, p, _, h0 => by rw [msk, Nat.add_zero, if_pos h0]
  | j + 1, p, hp, h0 => by
    rw [msk]
    by_cases g : plc (pms S σ p).1 m = -1
    · have e1 : spf S σ m (p + 1) = p := by rw [spf, if_pos ⟨h0, h, g⟩]
      have e2 := spf_st (S := S) (σ := σ) (m := m) (k := p + 1) (by omega) j
      rw [if_pos g, show p + (j + 1) = p + 1 + j by omega, e2, e1, if_neg (by omega)]
    · have e1 : spf S σ m (p + 1) = 0 := by rw [spf, if_neg (fun w => g w.2.2)]; exact h0
      rw [if_neg g, spf_msk h j (p + 1) (by omega) e1, show p + 1 + j = p + (j + 1) by omega]
theorem spf_e {S σ : Mem} {m : Int} (h : plc σ m ≠ -1) : msk S σ m 300 1 = (if spf S σ m 301 = 0 then -1 else (spf S σ m 301 : Int)) :=
  spf_msk h 300 1 (by decide) (by rw [spf, if_neg (fun w => h w.2.2)]; rfl)
/-- the first minute of a vote, as the law counts it -/
def vtf (S σ : Mem) (q : Nat) : Nat → Int
  | 0 => -1
  | k + 1 => if vtf S σ q k < 0 ∧ obs S (pms S σ k).1 q = 0 then (k : Int) else vtf S σ q k
theorem vtf_b {S σ : Mem} {q : Nat} : ∀ k, -1 ≤ vtf S σ q k ∧ vtf S σ q k ≤ k
  | 0 => ⟨by rw [vtf]; omega, by rw [vtf]; omega⟩
  | k + 1 => by
    have := vtf_b (S := S) (σ := σ) (q := q) k
    rw [vtf]
    split <;> omega
theorem vtf_st {S σ : Mem} {q k : Nat} (h : 0 ≤ vtf S σ q k) : ∀ j, vtf S σ q (k + j) = vtf S σ q k
  | 0 => rfl
  | j + 1 => by
    show vtf S σ q (k + j + 1) = _
    rw [vtf, vtf_st h j, if_neg (fun w => by omega)]
theorem vtf_mvk {S σ : Mem} {q : Nat} (hq : (q : Int) < σ 5 0) : ∀ j p : Nat, vtf S σ q p = -1 → mvk S σ q j p = vtf S σ q (p + j)
  | 0, p, h0 => by rw [mvk, Nat.add_zero, h0]
  | j + 1, p, h0 => by
    have e5 := pms_5 (S := S) (s := σ) p
    rw [mvk, obo_n (by omega)]
    by_cases g : obs S (pms S σ p).1 q = 0
    · have e1 : vtf S σ q (p + 1) = p := by rw [vtf, if_pos ⟨by omega, g⟩]
      have e2 := vtf_st (S := S) (σ := σ) (q := q) (k := p + 1) (by omega) j
      rw [if_pos g, show p + (j + 1) = p + 1 + j by omega, e2, e1]
    · have e1 : vtf S σ q (p + 1) = -1 := by rw [vtf, if_neg (fun w => g w.2)]; exact h0
      rw [if_neg g, vtf_mvk hq j (p + 1) e1, show p + 1 + j = p + (j + 1) by omega]
set_option maxRecDepth 8000 in
set_option maxHeartbeats 4000000 in
theorem l_foretold {Q : Option Value → Mem → Prop} {X : String → Mem → Prop} {S σ : Mem} {T : Int} (hS : wfS S) (hC : wfC S σ) (hZ : zro S σ) (hL : lim S σ (4 * T)) (h5 : 0 ≤ σ 0 5 ∧ σ 0 5 ≤ T) (hT : T ≤ 100000) {q mi : Nat} (hq : (q : Int) ≤ σ 5 0) (hmi : mi < 301) {ν : Mem} (hF : FI S σ ν) (ho : own S σ (vw 293 ν)) (hz : ∀ m, m < 12 → ν 310 m = 0)
    (K : ∀ ν', FI S σ ν' → (∀ a j, a < 41 ∨ (62 ≤ a ∧ a < 293) → ν' a j = ν a j) → Q (some (.int (iI 1))) ν') :
    go 311 8 0 0 mL_isForetold Q X 15 [.ref 0, .ref 276, .int (iI (q : Nat)), .int (iI (mi : Nat)), .ref 310, .int (iI (-1)), .ref 293, .null, .null] [] ν := by
  have n1 := wf_n hS
  have r1 := wf_r hS hC
  obtain ⟨a, ha⟩ := Int.eq_ofNat_of_zero_le r1.1
  obtain ⟨nm, hnm⟩ := Int.eq_ofNat_of_zero_le (show 0 ≤ S 0 7 by omega)
  have pz := fun k hk => pms_z hS hC hZ hL (by omega) ⟨h5.1, by omega⟩ k hk
  have e8 (μ : Mem) (h : FI S σ μ) : μ 276 8 = (nm : Int) := (show μ 276 8 = S 0 7 from h.2.2.1.2.2.2.2.2.2.2.2.1).trans hnm
  have e9 (μ : Mem) (h : FI S σ μ) : μ 276 9 = (a : Int) := (show μ 276 9 = σ 5 0 from h.2.2.1.2.2.2.2.2.2.2.2.2.1).trans ha
  -- the ends
  have J199 : ∀ (μ : Mem) (n' : Nat), FI S σ μ → (∀ a j, a < 41 ∨ (62 ≤ a ∧ a < 293) → μ a j = ν a j) → go 311 8 0 0 mL_isForetold Q X 199 [.ref 0, .ref 276, .int (iI (q : Nat)), .int (iI (mi : Nat)), .ref 310, .int (iI (if q < a then vtf S σ q 301 else -1)), .ref 293, .int (iI (n' : Nat)), .null] [] μ := by
    intro μ n' hm hr
    have bv := vtf_b (S := S) (σ := σ) (q := q) 301
    by_cases g : q < a
    · rw [if_pos g]
      have em : mvk S σ q 301 0 = vtf S σ q 301 := by rw [vtf_mvk (by omega) 301 0 rfl, Nat.zero_add]
      refine go_iload_n (y := mL_isForetold) (pc := 199) dL_isForetold_199 rfl rfl ?_
      refine go_aload_n (y := mL_isForetold) (pc := 200) dL_isForetold_200 rfl rfl ?_
      refine go_getI (y := mL_isForetold) (pc := 201) dL_isForetold_201 fl_L_60 rfl rfl (by decide) (fun r201 => ?_)
      refine go_top (b := ((a : Nat) : Int)) (e9 _ hm) (fun t201 => ?_)
      refine go_icmp_ge (y := mL_isForetold) (pc := 204) (tgt := 217) dL_isForetold_204 (by decide) (by omega) (by omega) (fun h204 => ?_) (fun h204 => ?_)
      · skip
        exact absurd h204 (by omega)
      · skip
        refine go_aload_n (y := mL_isForetold) (pc := 207) dL_isForetold_207 rfl rfl ?_
        refine go_iload_n (y := mL_isForetold) (pc := 208) dL_isForetold_208 rfl rfl ?_
        refine go_callV1 (y := mL_isForetold) (pc := 209) (y' := mX10_minutesUntilVote) (kc2 := 0) (ks2 := 0) dL_isForetold_209 ml_L_265 ok_X10_minutesUntilVote (show shp 0 = _ from rfl) ⟨_, _, rfl⟩ (by decide) rfl (by decide) (Nat.le_of_ble_eq_true rfl) rfl (q_minutesUntilVote hS hC hm (k := q) (by omega) (fun τ' => ?_))
        refine go_top (b := vtf S σ q 301) (em) (fun t209 => ?_)
        refine go_iload (y := mL_isForetold) (pc := 212) dL_isForetold_212 rfl ?_
        refine go_icmp_ne (y := mL_isForetold) (pc := 214) (tgt := 221) dL_isForetold_214 (by decide) (by omega) (by omega) (fun h214 => ?_) (fun h214 => ?_)
        · skip
          exact absurd rfl h214
        · skip
          refine go_iconst (y := mL_isForetold) (pc := 217) dL_isForetold_217 ?_
          refine go_goto (y := mL_isForetold) (pc := 218) (tgt := 222) dL_isForetold_218 (by decide) ?_
          refine go_zreturn (y := mL_isForetold) (pc := 222) dL_isForetold_222 rfl (by omega) ?_
          exact K _ (FI_41 hm) (fun b j hb => (put_o (by omega)).trans (hr b j hb))
    · rw [if_neg g]
      refine go_iload_n (y := mL_isForetold) (pc := 199) dL_isForetold_199 rfl rfl ?_
      refine go_aload_n (y := mL_isForetold) (pc := 200) dL_isForetold_200 rfl rfl ?_
      refine go_getI (y := mL_isForetold) (pc := 201) dL_isForetold_201 fl_L_60 rfl rfl (by decide) (fun r201 => ?_)
      refine go_top (b := ((a : Nat) : Int)) (e9 _ hm) (fun t201 => ?_)
      refine go_icmp_ge (y := mL_isForetold) (pc := 204) (tgt := 217) dL_isForetold_204 (by decide) (by omega) (by omega) (fun h204 => ?_) (fun h204 => ?_)
      · skip
        refine go_iconst (y := mL_isForetold) (pc := 217) dL_isForetold_217 ?_
        refine go_goto (y := mL_isForetold) (pc := 218) (tgt := 222) dL_isForetold_218 (by decide) ?_
        refine go_zreturn (y := mL_isForetold) (pc := 222) dL_isForetold_222 rfl (by omega) ?_
        exact K _ hm hr
      · skip
        exact absurd h204 (by omega)
  have loop3 : ∀ (j k : Nat) (μ : Mem), k + j = nm → FI S σ μ → (∀ a j, a < 41 ∨ (62 ≤ a ∧ a < 293) → μ a j = ν a j) → (∀ m, m < nm → μ 310 m = spf S σ m 301) → go 311 8 0 0 mL_isForetold Q X 156 [.ref 0, .ref 276, .int (iI (q : Nat)), .int (iI (mi : Nat)), .ref 310, .int (iI (if q < a then vtf S σ q 301 else -1)), .ref 293, .int (iI (k : Nat)), .null] [] μ := by
    intro j
    induction j with
    | zero =>
      intro k μ hk hm hr hsp
      refine go_iload (y := mL_isForetold) (pc := 156) dL_isForetold_156 rfl ?_
      refine go_aload_n (y := mL_isForetold) (pc := 158) dL_isForetold_158 rfl rfl ?_
      refine go_getI (y := mL_isForetold) (pc := 159) dL_isForetold_159 fl_L_50 rfl rfl (by decide) (fun r159 => ?_)
      refine go_top (b := ((nm : Nat) : Int)) (e8 _ hm) (fun t159 => ?_)
      refine go_icmp_ge (y := mL_isForetold) (pc := 162) (tgt := 199) dL_isForetold_162 (by decide) (by omega) (by omega) (fun h162 => ?_) (fun h162 => ?_)
      · skip
        exact J199 μ k hm hr
      · skip
        exact absurd h162 (by omega)
    | succ j ih =>
      intro k μ hk hm hr hsp
      have J171 : ∀ (μ' : Mem), FI S σ μ' → (∀ a j, a < 41 ∨ (62 ≤ a ∧ a < 293) → μ' a j = ν a j) → (∀ m, m < nm → μ' 310 m = spf S σ m 301) → go 311 8 0 0 mL_isForetold Q X 171 [.ref 0, .ref 276, .int (iI (q : Nat)), .int (iI (mi : Nat)), .ref 310, .int (iI (if q < a then vtf S σ q 301 else -1)), .ref 293, .int (iI (k : Nat)), .null] [.int (iI (if spf S σ k 301 = 0 then -1 else (spf S σ k 301 : Int)))] μ' := by
        intro μ' hm hr hsp
        have hb := spf_b (S := S) (σ := σ) (m := (k : Nat)) 301
        have hrn : rng (if spf S σ k 301 = 0 then -1 else (spf S σ k 301 : Int)) := by split <;> omega
        refine go_aload (y := mL_isForetold) (pc := 171) dL_isForetold_171 rfl ?_
        refine go_iload (y := mL_isForetold) (pc := 173) dL_isForetold_173 rfl ?_
        refine go_iaload (y := mL_isForetold) (pc := 175) (k := k) dL_isForetold_175 rfl (by decide) rfl (by omega) (by decide) (fun r175 => ?_)
        refine go_top (b := ((spf S σ k 301 : Nat) : Int)) (hsp k (by omega)) (fun t175 => ?_)
        refine go_if_ne (y := mL_isForetold) (pc := 176) (tgt := 183) dL_isForetold_176 (by decide) (by omega) (fun h176 => ?_) (fun h176 => ?_)
        · skip
          refine go_aload (y := mL_isForetold) (pc := 183) dL_isForetold_183 rfl ?_
          refine go_iload (y := mL_isForetold) (pc := 185) dL_isForetold_185 rfl ?_
          refine go_iaload (y := mL_isForetold) (pc := 187) (k := k) dL_isForetold_187 rfl (by decide) rfl (by omega) (by decide) (fun r187 => ?_)
          refine go_top (b := ((spf S σ k 301 : Nat) : Int)) (hsp k (by omega)) (fun t187 => ?_)
          refine go_icmp_eq (y := mL_isForetold) (pc := 188) (tgt := 193) dL_isForetold_188 (by decide) hrn (by omega) (fun h188 => ?_) (fun h188 => ?_)
          · skip
            refine go_iinc (y := mL_isForetold) (pc := 193) dL_isForetold_193 rfl (by decide) ?_
            refine go_goto (y := mL_isForetold) (pc := 196) (tgt := 156) dL_isForetold_196 (by decide) ?_
            exact ih (k + 1) μ' (by omega) hm hr hsp
          · skip
            exact absurd (if_neg (by omega)) h188
        · skip
          refine go_iconst (y := mL_isForetold) (pc := 179) dL_isForetold_179 ?_
          refine go_goto (y := mL_isForetold) (pc := 180) (tgt := 188) dL_isForetold_180 (by decide) ?_
          refine go_icmp_eq (y := mL_isForetold) (pc := 188) (tgt := 193) dL_isForetold_188 (by decide) hrn (by omega) (fun h188 => ?_) (fun h188 => ?_)
          · skip
            refine go_iinc (y := mL_isForetold) (pc := 193) dL_isForetold_193 rfl (by decide) ?_
            refine go_goto (y := mL_isForetold) (pc := 196) (tgt := 156) dL_isForetold_196 (by decide) ?_
            exact ih (k + 1) μ' (by omega) hm hr hsp
          · skip
            exact absurd (if_pos (by omega)) h188
      refine go_iload (y := mL_isForetold) (pc := 156) dL_isForetold_156 rfl ?_
      refine go_aload_n (y := mL_isForetold) (pc := 158) dL_isForetold_158 rfl rfl ?_
      refine go_getI (y := mL_isForetold) (pc := 159) dL_isForetold_159 fl_L_50 rfl rfl (by decide) (fun r159 => ?_)
      refine go_top (b := ((nm : Nat) : Int)) (e8 _ hm) (fun t159 => ?_)
      refine go_icmp_ge (y := mL_isForetold) (pc := 162) (tgt := 199) dL_isForetold_162 (by decide) (by omega) (by omega) (fun h162 => ?_) (fun h162 => ?_)
      · skip
        exact absurd h162 (by omega)
      · skip
        refine go_aload_n (y := mL_isForetold) (pc := 165) dL_isForetold_165 rfl rfl ?_
        refine go_iload (y := mL_isForetold) (pc := 166) dL_isForetold_166 rfl ?_
        refine go_callV1 (y := mL_isForetold) (pc := 168) (y' := mX10_minutesUntilSpeech) (kc2 := 0) (ks2 := 0) dL_isForetold_168 ml_L_262 ok_X10_minutesUntilSpeech (show shp 0 = _ from rfl) ⟨_, _, rfl⟩ (by decide) rfl (by decide) (Nat.le_of_ble_eq_true rfl) rfl (q_minutesUntilSpeech hS hC hm (m := k) (by omega) (fun μ' v' g0 g1 g2 => ?_))
        have ev : v' = if spf S σ k 301 = 0 then -1 else (spf S σ k 301 : Int) := by
          by_cases g : plc σ k = -1
          · rw [spf_0 g, if_pos rfl]; exact g1 g
          · rw [g2 g]; exact spf_e g
        rw [ev]
        rcases g0 with g0 | ⟨τ', g0⟩
        · rw [g0]
          exact J171 μ hm hr hsp
        · rw [g0]
          exact J171 _ (FI_41 hm) (fun b j hb => (put_o (by omega)).trans (hr b j hb)) (fun m hmm => (put_o (by omega)).trans (hsp m hmm))
  have J153 : ∀ (μ : Mem), FI S σ μ → (∀ a j, a < 41 ∨ (62 ≤ a ∧ a < 293) → μ a j = ν a j) → (∀ m, m < nm → μ 310 m = spf S σ m 301) → ∀ (n' : Nat), go 311 8 0 0 mL_isForetold Q X 153 [.ref 0, .ref 276, .int (iI (q : Nat)), .int (iI (mi : Nat)), .ref 310, .int (iI (if q < a then vtf S σ q 301 else -1)), .ref 293, .int (iI (n' : Nat)), .null] [] μ := by
    intro μ hm hr hsp n'
    refine go_iconst (y := mL_isForetold) (pc := 153) dL_isForetold_153 ?_
    refine go_istore (y := mL_isForetold) (pc := 154) dL_isForetold_154 (by decide) ?_
    exact loop3 nm 0 μ (by omega) hm hr hsp
  have loop : ∀ (j n : Nat) (μ : Mem), n + j = 301 → FI S σ μ → (∀ a j, a < 41 ∨ (62 ≤ a ∧ a < 293) → μ a j = ν a j) → own S (pms S σ n).1 (vw 293 μ) → (∀ m, m < nm → μ 310 m = spf S σ m n) → go 311 8 0 0 mL_isForetold Q X 18 [.ref 0, .ref 276, .int (iI (q : Nat)), .int (iI (mi : Nat)), .ref 310, .int (iI (if q < a then vtf S σ q n else -1)), .ref 293, .int (iI (n : Nat)), .null] [] μ := by
    intro j
    induction j with
    | zero =>
      intro n μ hn hm hr how hsp
      have e : n = 301 := by omega
      subst e
      refine go_iload (y := mL_isForetold) (pc := 18) dL_isForetold_18 rfl ?_
      refine go_sipush (y := mL_isForetold) (pc := 20) dL_isForetold_20 (by decide) ?_
      refine go_icmp_gt (y := mL_isForetold) (pc := 23) (tgt := 153) dL_isForetold_23 (by decide) (by omega) (by omega) (fun h23 => ?_) (fun h23 => ?_)
      · skip
        exact J153 μ hm hr hsp 301
      · skip
        exact absurd h23 (by decide)
    | succ j ih =>
      intro n μ hn hm hr how hsp
      obtain ⟨z1, z2, z3, z4⟩ := pz n (by omega)
      have e5 := pms_5 (S := S) (s := σ) n
      have J142 : ∀ (μ : Mem) (x : Value), FI S σ μ → (∀ a j, a < 41 ∨ (62 ≤ a ∧ a < 293) → μ a j = ν a j) → own S (pms S σ n).1 (vw 293 μ) → (∀ m, m < nm → μ 310 m = spf S σ m (n + 1)) → go 311 8 0 0 mL_isForetold Q X 142 [.ref 0, .ref 276, .int (iI (q : Nat)), .int (iI (mi : Nat)), .ref 310, .int (iI (if q < a then vtf S σ q (n + 1) else -1)), .ref 293, .int (iI (n : Nat)), x] [] μ := by
        intro μ x hm hr how hsp
        refine go_aload (y := mL_isForetold) (pc := 142) dL_isForetold_142 rfl ?_
        refine go_callV0 (y := mL_isForetold) (pc := 144) (y' := mX11_minutes) (kc2 := 0) (ks2 := 0) dL_isForetold_144 ml_L_259 ok_X11_minutes (show shp 293 = _ from rfl) ⟨_, _, rfl⟩ (by decide) trivial (by decide) (Nat.le_of_ble_eq_true rfl) rfl (s_minutes (z := 311) (w := 293) (Or.inr rfl) (by decide) hS z1 how z3 (by omega) (fun ω' e144 => ?_))
        refine go_iinc (y := mL_isForetold) (pc := 147) dL_isForetold_147 rfl (by decide) ?_
        refine go_goto (y := mL_isForetold) (pc := 150) (tgt := 18) dL_isForetold_150 (by decide) ?_
        refine go_fgt 8 ?_
        exact ih (n + 1) _ (by omega) (FI_ow hm) (fun b j hb => (ow_o (by omega)).trans (hr b j hb)) (own_cg e144 (fun r j hr => ow_r hr)) (fun m hmm => (ow_o (by omega)).trans (hsp m hmm))
      have J117 : ∀ (μ : Mem) (x : Value), q < a → FI S σ μ → (∀ a j, a < 41 ∨ (62 ≤ a ∧ a < 293) → μ a j = ν a j) → own S (pms S σ n).1 (vw 293 μ) → (∀ m, m < nm → μ 310 m = spf S σ m (n + 1)) → go 311 8 0 0 mL_isForetold Q X 117 [.ref 0, .ref 276, .int (iI (q : Nat)), .int (iI (mi : Nat)), .ref 310, .int (iI (if q < a then vtf S σ q (n + 1) else -1)), .ref 293, .int (iI (n : Nat)), x] [] μ := by
        intro μ x hqa hm hr how hsp
        have e7 : μ 300 q = (pms S σ n).1 8 q := (how.2.2.1 q (by omega)).2.1
        have hb8 := z1.2.2.1 q (by omega)
        refine go_iload (y := mL_isForetold) (pc := 117) dL_isForetold_117 rfl ?_
        refine go_iload_n (y := mL_isForetold) (pc := 119) dL_isForetold_119 rfl rfl ?_
        refine go_icmp_ne (y := mL_isForetold) (pc := 120) (tgt := 142) dL_isForetold_120 (by decide) (by omega) (by omega) (fun h120 => ?_) (fun h120 => ?_)
        · skip
          exact J142 μ x hm hr how hsp
        · skip
          refine go_aload_n (y := mL_isForetold) (pc := 123) dL_isForetold_123 rfl rfl ?_
          refine go_iload_n (y := mL_isForetold) (pc := 124) dL_isForetold_124 rfl rfl ?_
          refine go_iload (y := mL_isForetold) (pc := 125) dL_isForetold_125 rfl ?_
          refine go_callV2 (y := mL_isForetold) (pc := 127) (y' := mX10_latherAfter) (kc2 := 0) (ks2 := 0) dL_isForetold_127 ml_L_256 ok_X10_latherAfter (show shp 0 = _ from rfl) ⟨_, _, rfl⟩ (by decide) ⟨rfl, rfl⟩ (by decide) (Nat.le_of_ble_eq_true rfl) rfl (q_latherAfter hS hC hm (k := q) (n := n) (by omega) (by omega) (fun τ' => ?_))
          refine go_aload (y := mL_isForetold) (pc := 130) dL_isForetold_130 rfl ?_
          refine go_getR (y := mL_isForetold) (pc := 132) dL_isForetold_132 fl_L_126 rfl rfl (by decide) ?_
          refine go_iload_n (y := mL_isForetold) (pc := 135) dL_isForetold_135 rfl rfl ?_
          refine go_iaload (y := mL_isForetold) (pc := 136) (k := q) dL_isForetold_136 rfl (by decide) rfl (by omega) (by decide) (fun r136 => ?_)
          refine go_top (b := (pms S σ n).1 8 q) ((put_o (by omega)).trans e7) (fun t136 => ?_)
          refine go_icmp_eq (y := mL_isForetold) (pc := 137) (tgt := 142) dL_isForetold_137 (by decide) (by omega) (by omega) (fun h137 => ?_) (fun h137 => ?_)
          · skip
            exact J142 _ x (FI_41 hm) (fun b j hb => (put_o (by omega)).trans (hr b j hb)) (own_cg how (fun r j hr => put_o (by omega))) (fun m hmm => (put_o (by omega)).trans (hsp m hmm))
          · skip
            exact absurd rfl h137
      have J86 : ∀ (μ : Mem) (x : Value), FI S σ μ → (∀ a j, a < 41 ∨ (62 ≤ a ∧ a < 293) → μ a j = ν a j) → own S (pms S σ n).1 (vw 293 μ) → (∀ m, m < nm → μ 310 m = spf S σ m (n + 1)) → go 311 8 0 0 mL_isForetold Q X 86 [.ref 0, .ref 276, .int (iI (q : Nat)), .int (iI (mi : Nat)), .ref 310, .int (iI (if q < a then vtf S σ q n else -1)), .ref 293, .int (iI (n : Nat)), x] [] μ := by
        intro μ x hm hr how hsp
        by_cases hqa : q < a
        · have bv := vtf_b (S := S) (σ := σ) (q := q) n
          have J117' := J117 μ x hqa hm hr how hsp
          rw [if_pos hqa] at J117' ⊢
          refine go_iload_n (y := mL_isForetold) (pc := 86) dL_isForetold_86 rfl rfl ?_
          refine go_aload_n (y := mL_isForetold) (pc := 87) dL_isForetold_87 rfl rfl ?_
          refine go_getI (y := mL_isForetold) (pc := 88) dL_isForetold_88 fl_L_60 rfl rfl (by decide) (fun r88 => ?_)
          refine go_top (b := ((a : Nat) : Int)) (e9 _ hm) (fun t88 => ?_)
          refine go_icmp_ge (y := mL_isForetold) (pc := 91) (tgt := 142) dL_isForetold_91 (by decide) (by omega) (by omega) (fun h91 => ?_) (fun h91 => ?_)
          · skip
            exact absurd h91 (by omega)
          · skip
            refine go_iload (y := mL_isForetold) (pc := 94) dL_isForetold_94 rfl ?_
            refine go_if_ge (y := mL_isForetold) (pc := 96) (tgt := 113) dL_isForetold_96 (by decide) (by omega) (fun h96 => ?_) (fun h96 => ?_)
            · skip
              refine go_iload (y := mL_isForetold) (pc := 113) dL_isForetold_113 rfl ?_
              refine go_istore (y := mL_isForetold) (pc := 115) dL_isForetold_115 (by decide) ?_
              have e1 : vtf S σ q (n + 1) = vtf S σ q n := by rw [vtf, if_neg (fun w => by omega)]
              rw [e1] at J117'
              exact J117'
            · skip
              refine go_aload (y := mL_isForetold) (pc := 99) dL_isForetold_99 rfl ?_
              refine go_iload_n (y := mL_isForetold) (pc := 101) dL_isForetold_101 rfl rfl ?_
              refine go_callV1 (y := mL_isForetold) (pc := 102) (y' := mX11_obstacle) (kc2 := 0) (ks2 := 0) dL_isForetold_102 ml_L_146 ok_X11_obstacle (show shp 293 = _ from rfl) ⟨_, _, rfl⟩ (by decide) rfl (by decide) (Nat.le_of_ble_eq_true rfl) rfl (s_obstacle (z := 311) (w := 293) (Or.inr rfl) (by decide) hS z1 how (q := q) (by omega) (fun v' e102 b102 => ?_))
              refine go_if_ne (y := mL_isForetold) (pc := 105) (tgt := 113) dL_isForetold_105 (by decide) (by omega) (fun h105 => ?_) (fun h105 => ?_)
              · skip
                refine go_iload (y := mL_isForetold) (pc := 113) dL_isForetold_113 rfl ?_
                refine go_istore (y := mL_isForetold) (pc := 115) dL_isForetold_115 (by decide) ?_
                have e1 : vtf S σ q (n + 1) = vtf S σ q n := by rw [vtf, if_neg (fun w => by omega)]
                rw [e1] at J117'
                exact J117'
              · skip
                refine go_iload (y := mL_isForetold) (pc := 108) dL_isForetold_108 rfl ?_
                refine go_goto (y := mL_isForetold) (pc := 110) (tgt := 115) dL_isForetold_110 (by decide) ?_
                refine go_istore (y := mL_isForetold) (pc := 115) dL_isForetold_115 (by decide) ?_
                have e1 : vtf S σ q (n + 1) = n := by rw [vtf, if_pos ⟨by omega, by omega⟩]
                rw [e1] at J117'
                exact J117'
        · have J142' := J142 μ x hm hr how hsp
          rw [if_neg hqa] at J142' ⊢
          refine go_iload_n (y := mL_isForetold) (pc := 86) dL_isForetold_86 rfl rfl ?_
          refine go_aload_n (y := mL_isForetold) (pc := 87) dL_isForetold_87 rfl rfl ?_
          refine go_getI (y := mL_isForetold) (pc := 88) dL_isForetold_88 fl_L_60 rfl rfl (by decide) (fun r88 => ?_)
          refine go_top (b := ((a : Nat) : Int)) (e9 _ hm) (fun t88 => ?_)
          refine go_icmp_ge (y := mL_isForetold) (pc := 91) (tgt := 142) dL_isForetold_91 (by decide) (by omega) (by omega) (fun h91 => ?_) (fun h91 => ?_)
          · skip
            exact J142'
          · skip
            exact absurd h91 (by omega)
      have loop2 : ∀ (i k : Nat) (μ : Mem), k + i = nm → FI S σ μ → (∀ a j, a < 41 ∨ (62 ≤ a ∧ a < 293) → μ a j = ν a j) → own S (pms S σ n).1 (vw 293 μ) → (∀ m, m < nm → μ 310 m = if m < k then spf S σ m (n + 1) else spf S σ m n) → go 311 8 0 0 mL_isForetold Q X 29 [.ref 0, .ref 276, .int (iI (q : Nat)), .int (iI (mi : Nat)), .ref 310, .int (iI (if q < a then vtf S σ q n else -1)), .ref 293, .int (iI (n : Nat)), .int (iI (k : Nat))] [] μ := by
        intro i
        induction i with
        | zero =>
          intro k μ hk hm hr how hsp
          refine go_iload (y := mL_isForetold) (pc := 29) dL_isForetold_29 rfl ?_
          refine go_aload_n (y := mL_isForetold) (pc := 31) dL_isForetold_31 rfl rfl ?_
          refine go_getI (y := mL_isForetold) (pc := 32) dL_isForetold_32 fl_L_50 rfl rfl (by decide) (fun r32 => ?_)
          refine go_top (b := ((nm : Nat) : Int)) (e8 _ hm) (fun t32 => ?_)
          refine go_icmp_ge (y := mL_isForetold) (pc := 35) (tgt := 86) dL_isForetold_35 (by decide) (by omega) (by omega) (fun h35 => ?_) (fun h35 => ?_)
          · skip
            exact J86 μ _ hm hr how (fun m hmm => by rw [hsp m hmm, if_pos (by omega)])
          · skip
            exact absurd h35 (by omega)
        | succ i ih2 =>
          intro k μ hk hm hr how hsp
          have hk9 := hsp k (by omega)
          rw [if_neg (by omega)] at hk9
          have hb := spf_b (S := S) (σ := σ) (m := (k : Nat)) n
          have J79 : ∀ (x : Int), x = spf S σ k (n + 1) → rng x → go 311 8 0 0 mL_isForetold Q X 79 [.ref 0, .ref 276, .int (iI (q : Nat)), .int (iI (mi : Nat)), .ref 310, .int (iI (if q < a then vtf S σ q n else -1)), .ref 293, .int (iI (n : Nat)), .int (iI (k : Nat))] [.int (iI x), .int (iI (k : Nat)), .ref 310] μ := by
            intro x hx hxr
            refine go_iastore (y := mL_isForetold) (pc := 79) (k := k) dL_isForetold_79 rfl (by decide) rfl (by omega) (by decide) hxr ?_
            refine go_iinc (y := mL_isForetold) (pc := 80) dL_isForetold_80 rfl (by decide) ?_
            refine go_goto (y := mL_isForetold) (pc := 83) (tgt := 29) dL_isForetold_83 (by decide) ?_
            refine ih2 (k + 1) _ (by omega) (FI_wr (by decide) hm) (fun b j hb => (wr_na (by omega)).trans (hr b j hb)) (own_cg how (fun r j hr => wr_na (by omega))) (fun m hmm => ?_)
            by_cases g : m = k
            · subst g
              rw [wr_s, if_pos (by omega)]
              exact hx
            · rw [wr_ni g, hsp m hmm]
              by_cases g2 : m < k
              · rw [if_pos g2, if_pos (by omega)]
              · rw [if_neg g2, if_neg (by omega)]
          have J74 : spf S σ k (n + 1) = spf S σ k n → go 311 8 0 0 mL_isForetold Q X 74 [.ref 0, .ref 276, .int (iI (q : Nat)), .int (iI (mi : Nat)), .ref 310, .int (iI (if q < a then vtf S σ q n else -1)), .ref 293, .int (iI (n : Nat)), .int (iI (k : Nat))] [.int (iI (k : Nat)), .ref 310] μ := by
            intro he
            refine go_aload (y := mL_isForetold) (pc := 74) dL_isForetold_74 rfl ?_
            refine go_iload (y := mL_isForetold) (pc := 76) dL_isForetold_76 rfl ?_
            refine go_iaload (y := mL_isForetold) (pc := 78) (k := k) dL_isForetold_78 rfl (by decide) rfl (by omega) (by decide) (fun r78 => ?_)
            refine go_top (b := ((spf S σ k n : Nat) : Int)) (hk9) (fun t78 => ?_)
            exact J79 _ (by rw [he]) (by omega)
          refine go_iload (y := mL_isForetold) (pc := 29) dL_isForetold_29 rfl ?_
          refine go_aload_n (y := mL_isForetold) (pc := 31) dL_isForetold_31 rfl rfl ?_
          refine go_getI (y := mL_isForetold) (pc := 32) dL_isForetold_32 fl_L_50 rfl rfl (by decide) (fun r32 => ?_)
          refine go_top (b := ((nm : Nat) : Int)) (e8 _ hm) (fun t32 => ?_)
          refine go_icmp_ge (y := mL_isForetold) (pc := 35) (tgt := 86) dL_isForetold_35 (by decide) (by omega) (by omega) (fun h35 => ?_) (fun h35 => ?_)
          · skip
            exact absurd h35 (by omega)
          · skip
            refine go_aload (y := mL_isForetold) (pc := 38) dL_isForetold_38 rfl ?_
            refine go_iload (y := mL_isForetold) (pc := 40) dL_isForetold_40 rfl ?_
            refine go_aload (y := mL_isForetold) (pc := 42) dL_isForetold_42 rfl ?_
            refine go_iload (y := mL_isForetold) (pc := 44) dL_isForetold_44 rfl ?_
            refine go_iaload (y := mL_isForetold) (pc := 46) (k := k) dL_isForetold_46 rfl (by decide) rfl (by omega) (by decide) (fun r46 => ?_)
            refine go_top (b := ((spf S σ k n : Nat) : Int)) (hk9) (fun t46 => ?_)
            refine go_if_ne (y := mL_isForetold) (pc := 47) (tgt := 74) dL_isForetold_47 (by decide) (by omega) (fun h47 => ?_) (fun h47 => ?_)
            · skip
              exact J74 (by rw [spf, if_neg (fun w => by omega)])
            · skip
              refine go_aload_n (y := mL_isForetold) (pc := 50) dL_isForetold_50 rfl rfl ?_
              refine go_iload (y := mL_isForetold) (pc := 51) dL_isForetold_51 rfl ?_
              refine go_callV1 (y := mL_isForetold) (pc := 53) (y' := mX11_listed) (kc2 := 0) (ks2 := 0) dL_isForetold_53 ml_L_99 ok_X11_listed (show shp 276 = _ from rfl) ⟨_, _, rfl⟩ (by decide) rfl (by decide) (Nat.le_of_ble_eq_true rfl) rfl (s_listed (z := 311) (w := 276) (Or.inl rfl) (by decide) hS hC hm.2.2 (m := (k : Nat)) (by omega) (fun v1 e53 b53 => ?_))
              refine go_if_lt (y := mL_isForetold) (pc := 56) (tgt := 74) dL_isForetold_56 (by decide) (by omega) (fun h56 => ?_) (fun h56 => ?_)
              · skip
                exact J74 (by rw [spf, if_neg (fun w => w.2.1 (by omega))])
              · skip
                refine go_aload (y := mL_isForetold) (pc := 59) dL_isForetold_59 rfl ?_
                refine go_iload (y := mL_isForetold) (pc := 61) dL_isForetold_61 rfl ?_
                refine go_callV1 (y := mL_isForetold) (pc := 63) (y' := mX11_listed) (kc2 := 0) (ks2 := 0) dL_isForetold_63 ml_L_99 ok_X11_listed (show shp 293 = _ from rfl) ⟨_, _, rfl⟩ (by decide) rfl (by decide) (Nat.le_of_ble_eq_true rfl) rfl (s_listed (z := 311) (w := 293) (Or.inr rfl) (by decide) hS z1 how (m := (k : Nat)) (by omega) (fun v2 e63 b63 => ?_))
                refine go_if_ge (y := mL_isForetold) (pc := 66) (tgt := 74) dL_isForetold_66 (by decide) (by omega) (fun h66 => ?_) (fun h66 => ?_)
                · skip
                  exact J74 (by rw [spf, if_neg (fun w => by have := w.2.2; omega)])
                · skip
                  refine go_iload (y := mL_isForetold) (pc := 69) dL_isForetold_69 rfl ?_
                  refine go_goto (y := mL_isForetold) (pc := 71) (tgt := 79) dL_isForetold_71 (by decide) ?_
                  exact J79 _ (by rw [spf, if_pos ⟨by omega, by omega, by omega⟩]) (by omega)
      refine go_iload (y := mL_isForetold) (pc := 18) dL_isForetold_18 rfl ?_
      refine go_sipush (y := mL_isForetold) (pc := 20) dL_isForetold_20 (by decide) ?_
      refine go_icmp_gt (y := mL_isForetold) (pc := 23) (tgt := 153) dL_isForetold_23 (by decide) (by omega) (by omega) (fun h23 => ?_) (fun h23 => ?_)
      · skip
        exact absurd h23 (by omega)
      · skip
        refine go_iconst (y := mL_isForetold) (pc := 26) dL_isForetold_26 ?_
        refine go_istore (y := mL_isForetold) (pc := 27) dL_isForetold_27 (by decide) ?_
        exact loop2 nm 0 μ (by omega) hm hr how (fun m hmm => by rw [if_neg (by omega)]; exact hsp m hmm)
  refine go_iconst (y := mL_isForetold) (pc := 15) dL_isForetold_15 ?_
  refine go_istore (y := mL_isForetold) (pc := 16) dL_isForetold_16 (by decide) ?_
  have h0 := loop 301 0 ν (by omega) hF (fun _ _ _ => rfl) ho (fun m hm => hz m (by omega))
  rw [show (if q < a then vtf S σ q 0 else -1 : Int) = -1 by split <;> rfl] at h0
  exact h0
