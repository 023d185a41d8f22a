/-! OWN: a minute -/
theorem own_19 {S s ω : Mem} {h : Nat} {v : Int} (hR : own S s ω) : own S (wr s 19 h v) (wr ω 13 h v) := by
  obtain ⟨a, b, c, d, e, f⟩ := hR
  refine ⟨a, b, c, d, fun i hi => ?_, f⟩
  have := e i hi
  by_cases g : i = h
  · subst g; rw [wr_s, wr_s]; exact ⟨this.1, fun w => ⟨(this.2 w).1, rfl, (this.2 w).2.2⟩⟩
  · exact ⟨this.1, fun w => ⟨(this.2 w).1, ((wr_ni g).trans (this.2 w).2.1).trans (wr_ni g).symm, (this.2 w).2.2⟩⟩
theorem own_lve {S s ω : Mem} {h : Nat} (hR : own S s ω) : own S (lve s h) (wr ω 11 h (-1)) := by
  obtain ⟨a, b, c, d, e, f⟩ := hR
  refine ⟨a, b, c, d, fun i hi => ?_, f⟩
  have := e i hi
  have e16 : lve s h 16 i = if i = h then -1 else s 16 i := by
    unfold lve
    rw [wr_na (by decide), wr_na (by decide)]
    by_cases g : i = h
    · subst g; rw [wr_s, if_pos rfl]
    · rw [wr_ni g, if_neg g]
  rw [e16]
  by_cases g : i = h
  · subst g; rw [wr_s, if_pos rfl]; exact ⟨rfl, fun w => absurd rfl w⟩
  · rw [wr_ni g, if_neg g]
    have e17 : lve s h 17 i = s 17 i := by unfold lve; rw [wr_na (by decide), wr_na (by decide), wr_na (by decide)]
    have e18 : lve s h 18 i = s 18 i := by unfold lve; rw [wr_na (by decide), wr_na (by decide), wr_na (by decide)]
    have e19 : lve s h 19 i = s 19 i := by unfold lve; rw [wr_na (by decide), wr_ni g, wr_na (by decide)]
    have e20 : lve s h 20 i = s 20 i := by unfold lve; rw [wr_ni g, wr_na (by decide), wr_na (by decide)]
    rw [e17, e18, e19, e20]
    exact this
theorem own_ln {S s ω : Mem} {m q : Nat} {v : Int} (hS : wfS S) (h16 : s 5 0 ≤ 16) (hR : own S s ω) (hq : q < 16) (hm : m < 12) : own S (wr s 10 (q * 12 + m) v) (wr ω 10 (16 * m + q) v) := by
  have n1 := wf_n hS
  obtain ⟨a, b, c, d, e, f⟩ := hR
  refine ⟨a, b, fun k hk => ?_, d, e, f⟩
  have := c k hk
  refine ⟨this.1, this.2.1, this.2.2.1, this.2.2.2.1, fun i hi => ?_⟩
  have h9 := this.2.2.2.2 i hi
  have hk0 : (k : Int) < s 5 0 := hk
  unfold ln at h9 ⊢
  by_cases g : k = q ∧ i = m
  · obtain ⟨rfl, rfl⟩ := g
    rw [wr_s, wr_s]
  · rw [wr_ni (by omega), wr_ni (by omega)]
    exact h9
theorem dry_k0 (t : Mem) : dry_k t 0 = t := by funext r j; unfold dry_k; rw [if_neg (by omega)]
theorem dry_ks (t : Mem) (k : Nat) : dry_k t (k + 1) = wr (dry_k t k) 8 k (if t 7 k = 0 ∧ t 8 k > 0 then t 8 k - 1 else t 8 k) := by
  funext r j
  unfold wr dry_k
  by_cases h1 : r = 8 ∧ j = k
  · obtain ⟨rfl, rfl⟩ := h1
    rw [if_pos (⟨rfl, rfl⟩ : (8 : Nat) = 8 ∧ j = j)]
    by_cases g : t 7 j = 0 ∧ t 8 j > 0
    · rw [if_pos ⟨rfl, by omega, g.1, g.2⟩, if_pos g]
    · rw [if_neg (fun w => g ⟨w.2.2.1, w.2.2.2⟩), if_neg g]
  · rw [if_neg h1]
    by_cases g : r = 8 ∧ j < k ∧ t 7 j = 0 ∧ t 8 j > 0
    · rw [if_pos g, if_pos ⟨g.1, by omega, g.2.2⟩]
    · rw [if_neg g, if_neg (fun w => g ⟨w.1, by omega, w.2.2⟩)]
def dkB (t : Mem) (B : Prop) [Decidable B] (k : Nat) : Mem := if B then dry_k t k else t
theorem dkB_s {t : Mem} {B : Prop} [Decidable B] {k : Nat} : dkB t B (k + 1) = wr (dkB t B k) 8 k (if B ∧ t 7 k = 0 ∧ t 8 k > 0 then t 8 k - 1 else t 8 k) := by
  unfold dkB
  by_cases h : B
  · rw [if_pos h, if_pos h, dry_ks]
    by_cases g : t 7 k = 0 ∧ t 8 k > 0
    · rw [if_pos g, if_pos ⟨h, g⟩]
    · rw [if_neg g, if_neg (fun w => g w.2)]
  · rw [if_neg h, if_neg h, if_neg (fun w => h w.1), wr_same rfl]
theorem dkB_o {t : Mem} {B : Prop} [Decidable B] {k r j : Nat} (h : r ≠ 8 ∨ k ≤ j) : dkB t B k r j = t r j := by
  unfold dkB
  split
  · unfold dry_k; rw [if_neg (by omega)]
  · rfl
theorem own_esp {S s ω : Mem} {h q : Nat} (hR : own S s ω) (hq : (q : Int) < s 5 0) : own S (lve (wr s 8 q (min (s 8 q + 1) 9)) h) (wr (wr ω 7 q (min (s 8 q + 1) 9)) 11 h (-1)) := own_lve (own_s8 hR hq)
/-- a speech starts -/
theorem own_sit {S s ω : Mem} {h : Nat} {m q d f T : Int} (hR : own S s ω) (h20 : s 20 h = 0) (hf : f = if d = 1 then 1 else 0) :
    own S (wr (wr (wr (wr s 16 h m) 17 h q) 18 h d) 19 h T) (wr (wr (wr (wr (wr ω 11 h m) 12 h q) 15 h f) 16 h 0) 13 h T) := by
  obtain ⟨a, b, c, e, g, k⟩ := hR
  refine ⟨a, b, c, e, fun i hi => ?_, k⟩
  have := g i hi
  have o : ∀ r, r ≠ 16 → r ≠ 17 → r ≠ 18 → r ≠ 19 → wr (wr (wr (wr s 16 h m) 17 h q) 18 h d) 19 h T r i = s r i := fun r h1 h2 h3 h4 => by rw [wr_na h4, wr_na h3, wr_na h2, wr_na h1]
  by_cases w : i = h
  · subst w
    rw [o 20 (by decide) (by decide) (by decide) (by decide)]
    have x16 : wr (wr (wr (wr s 16 i m) 17 i q) 18 i d) 19 i T 16 i = m := by rw [wr_na (by decide), wr_na (by decide), wr_na (by decide), wr_s]
    have x17 : wr (wr (wr (wr s 16 i m) 17 i q) 18 i d) 19 i T 17 i = q := by rw [wr_na (by decide), wr_na (by decide), wr_s]
    have x18 : wr (wr (wr (wr s 16 i m) 17 i q) 18 i d) 19 i T 18 i = d := by rw [wr_na (by decide), wr_s]
    rw [x16, x17, x18, wr_s, wr_s, h20]
    refine ⟨?_, fun _ => ⟨?_, rfl, ?_, ?_⟩⟩
    · rw [wr_na (by decide), wr_na (by decide), wr_na (by decide), wr_na (by decide), wr_s]
    · rw [wr_na (by decide), wr_na (by decide), wr_na (by decide), wr_s]
    · rw [wr_na (by decide), wr_na (by decide), wr_s]; exact hf
    · rw [wr_na (by decide), wr_s]
  · simp only [wr_ni w]
    exact this
theorem own_spk {S s ω : Mem} {h p m q : Nat} {f d : Int} (hS : wfS S) (hC : wfC S s) (hR : own S s ω) (hh : h < 4) (ho : s 16 h = -1) (hp : (p : Int) < s 11 0) (hm : s 12 p = m) (hq : s 13 p = q) (hd : d = s 14 p) (hf : f = if d = 1 then 1 else 0) :
    own S (spk S s h p) (wr (shf (wr (wr (wr (wr (wr (wr (wr ω 11 h m) 12 h q) 15 h f) 16 h 0) 13 h (S 0 2)) 5 m (wp (s 4 m + 1))) 9 q d) p 12) 14 12 0) := by
  have hd0 := hC.2.2.2.1 p hp
  have hx := hC.2.2.2.2.2 h hh
  have g1 := own_rmv hS hC hR hp
  have g2 := own_sit (h := h) (m := m) (q := q) (d := d) (f := f) (T := S 0 2) g1 (by rw [rmv_o (by omega)]; omega) hf
  have g3 := own_s9 (q := q) (v := d) g2 (by show (q : Int) < wr (wr (wr (wr (rmv s p) 16 h m) 17 h q) 18 h d) 19 h (S 0 2) 5 0; rw [wr_na (by decide), wr_na (by decide), wr_na (by decide), wr_na (by decide), rmv_o (by omega)]; omega)
  have g4 := own_s4 (m := m) (v := wp (s 4 m + 1)) g3
  have e1 : spk S s h p = wr (wr (wr (wr (wr (wr (rmv s p) 16 h m) 17 h q) 18 h d) 19 h (S 0 2)) 9 q d) 4 m (wp (s 4 m + 1)) := by
    unfold spk
    dsimp only
    rw [hm, hq, Int.toNat_natCast, Int.toNat_natCast, ← hd]
    rw [show wr (wr (wr (wr (wr (rmv s p) 16 h m) 17 h q) 18 h d) 19 h (S 0 2)) 9 q d 4 m = s 4 m by rw [wr_na (by decide), wr_na (by decide), wr_na (by decide), wr_na (by decide), wr_na (by decide), rmv_o (by omega)]]
  rw [e1]
  have e2 : wr (shf (wr (wr (wr (wr (wr (wr (wr ω 11 h m) 12 h q) 15 h f) 16 h 0) 13 h (S 0 2)) 5 m (wp (s 4 m + 1))) 9 q d) p 12) 14 12 0 = wr (wr (wr (wr (wr (wr (wr (wr (shf ω p 12) 14 12 0) 11 h m) 12 h q) 15 h f) 16 h 0) 13 h (S 0 2)) 9 q d) 5 m (wp (s 4 m + 1)) := by
    funext a j
    unfold shf wr
    by_cases ha : a = 14
    · subst ha
      simp
    · simp only [ha, false_and, if_false]
      by_cases h5 : a = 5 ∧ j = m
      · obtain ⟨rfl, rfl⟩ := h5; simp
      · by_cases h9 : a = 9 ∧ j = q
        · obtain ⟨rfl, rfl⟩ := h9; simp
        · simp [h5, h9]
  rw [e2]
  exact g4
theorem clp_i (v : Int) : clp v = if 20 < v then 20 else if v < -20 then -20 else v := by unfold clp; (repeat' split) <;> omega
theorem lim_esk {S s : Mem} {N : Int} {sp q : Nat} {ch : Int} {k : Nat} (h : lim S s N) : lim S (esk S s sp q ch k) N := fun m hm => by rw [esk_o (by decide)]; exact h m hm
theorem lim_pek {S s : Mem} {N : Int} (h : lim S s N) : ∀ k : Nat, lim S (pek S s k).1 N
  | 0 => h
  | k + 1 => by
    have ih := lim_pek h k
    intro m hm
    rw [pek]
    split
    · exact ih m hm
    · split
      · show 0 ≤ esp S _ k 4 m ∧ esp S _ k 4 m ≤ N
        rw [esp_o (by decide), wr_na (by decide)]; exact ih m hm
      · show 0 ≤ wr (pek S s k).1 19 k (wp ((pek S s k).1 19 k - 1)) 4 m ∧ wr (pek S s k).1 19 k (wp ((pek S s k).1 19 k - 1)) 4 m ≤ N
        rw [wr_na (by decide)]; exact ih m hm
theorem spk_4 {S s : Mem} {h p j : Nat} : spk S s h p 4 j = if j = (s 12 p).toNat then wp (s 4 j + 1) else s 4 j := by
  unfold spk
  rw [show wr (wr (wr (wr (wr (rmv s p) 16 h _) 17 h _) 18 h _) 19 h (S 0 2)) 9 _ _ 4 (s 12 p).toNat = s 4 (s 12 p).toNat by rw [wr_na (by decide), wr_na (by decide), wr_na (by decide), wr_na (by decide), wr_na (by decide), rmv_o (by omega)]]
  by_cases g : j = (s 12 p).toNat
  · subst g; rw [wr_s, if_pos rfl]
  · rw [wr_ni g, if_neg g, wr_na (by decide), wr_na (by decide), wr_na (by decide), wr_na (by decide), wr_na (by decide), rmv_o (by omega)]
theorem lim_pfk {S s : Mem} {N : Int} (h : lim S s N) (hN : N ≤ 1000000) : ∀ k : Nat, k ≤ 4 → lim S (pfk S s k) (N + k)
  | 0, _ => fun m hm => by have := h m hm; show 0 ≤ s 4 m ∧ s 4 m ≤ N + ((0 : Nat) : Int); omega
  | k + 1, hk => by
    have ih := lim_pfk h hN k (by omega)
    intro m hm
    have h2 := ih m hm
    rw [pfk]
    split
    · rw [spk_4]
      split
      · rw [wp_of ⟨by omega, by omega⟩]; omega
      · omega
    · omega
theorem lim_pm1 {S s : Mem} {N : Int} (h : lim S s N) : lim S (pm1 S s) N := fun m hm => by
  have := h m hm
  unfold pm1
  split
  · rw [dry_o (by decide), wr_na (by decide)]; exact this
  · rw [wr_na (by decide)]; exact this
theorem lim_pmn {S s : Mem} {N : Int} (hS : wfS S) (h : lim S s N) (hN : N ≤ 1000000) : lim S (pmn S s) (N + 4) := fun m hm => by
  have n1 := wf_n hS
  have := lim_pfk (lim_pek (lim_pm1 h) (S 0 0).toNat) hN (S 0 0).toNat (by omega) m hm
  unfold pmn
  omega
set_option maxRecDepth 8000 in
set_option maxHeartbeats 4000000 in
theorem o_minutes {z w : Nat} (hw : is_ow w) (hz : w + 17 ≤ z) {S s ω μ : Mem} (hS : wfS S) (hC : wfC S s) (hR : own S s ω) {N : Int} (hL : lim S s N) (hN : N ≤ 1000000) {Q : Option Value → Mem → Prop} {X : String → Mem → Prop} (K : ∀ ω', own S (pmn S s) ω' → iI (ω' 0 16) = iI (ω 0 16 + pme S s) → (∀ j, 14 ≤ j → j ≠ 16 → ω' 0 j = ω 0 j) → Q none (ow w ω' μ)) : mt z 4 0 0 mX11_minutes [.ref w] Q X (ow w ω μ) := by
  show go z 4 0 0 mX11_minutes Q X 0 [.ref w, .null, .null, .null, .null, .null, .null] [] _
  have n1 := wf_n hS
  have r1 := wf_r hS hC
  have d2 := hS.2.2.2.2.2.2.2.2.1
  have d30 := hS.2.2.2.2.2.2.2.2.2.1
  have wf1 := wf_pm1 hC (S := S)
  have s4 : ∀ (n k : Nat) (τ : Mem) (u2 u3 u4 u5 u6 : Value), (k : Int) + n = S 0 0 → own S (pfk S (pek S (pm1 S s) (S 0 0).toNat).1 k) τ → iI (τ 0 16) = iI (ω 0 16 + pme S s) → (∀ j, 14 ≤ j → j ≠ 16 → τ 0 j = ω 0 j) → go z 4 0 0 mX11_minutes Q X 327 [.ref w, .int (iI (k : Nat)), u2, u3, u4, u5, u6] [] (ow w τ μ) := by
    have wfp := wf_pek hS wf1 (S 0 0).toNat (by omega)
    have limp := lim_pek (lim_pm1 hL) (S := S) (S 0 0).toNat
    have K' := K
    unfold pmn at K'
    revert wfp limp K'
    generalize (pek S (pm1 S s) (S 0 0).toNat).1 = P
    intro wfp limp K' n
    induction n using Nat.strongRecOn with
    | _ n ih =>
      intro k τ u2 u3 u4 u5 u6 hk hO he hj
      have ih' := ih (n - 1)
      have wfk := wf_pfk hS wfp.1 k (by omega)
      have limk := lim_pfk limp hN k (by omega)
      have r2 := wf_r hS wfk
      have e0 := hO.1.1
      have e10 := hO.1.2.2.2.2.2.2.2.2.2.2.1
      have c6 := wfk.1.2.2.2.2.1
      have c6b := wfk.1.2.2.2.2.2.1
      have eS : pfk S P (k + 1) = if pfk S P k 16 k = -1 ∧ fsl S (pfk S P k) (pfk S P k 0 6) ≠ -1 then spk S (pfk S P k) k (fsl S (pfk S P k) (pfk S P k 0 6)).toNat else pfk S P k := rfl
      have e2 := hO.1.2.2.1
      by_cases hkn : (k : Int) = S 0 0
      · skip
        refine go_iload_n (y := mX11_minutes) (pc := 327) dX11_minutes_327 rfl rfl ?_
        refine go_aload_n (y := mX11_minutes) (pc := 328) dX11_minutes_328 rfl rfl ?_
        refine go_wget (y := mX11_minutes) (pc := 329) (r := 0) dX11_minutes_329 fl_X11_60 hw (by decide) rfl rfl hz (fun r329 => ?_)
        refine go_top (b := S 0 0) (e0) (fun t329 => ?_)
        refine go_icmp_ge (y := mX11_minutes) (pc := 332) (tgt := 462) dX11_minutes_332 (by decide) (by omega) (by omega) (fun h332 => ?_) (fun h332 => ?_)
        · skip
          refine go_return (y := mX11_minutes) (pc := 462) dX11_minutes_462 rfl ?_
          have e : k = (S 0 0).toNat := by omega
          subst e
          exact K' τ hO he hj
        · skip
          exact absurd h332 (by omega)
      · have hk4 : k < 4 := by omega
        have hX := wfk.2.2.2.2.2 k hk4
        have hE := hO.2.2.2.2.1 k hk4
        have J456 : ∀ (τ : Mem) (u2 u3 u4 u5 u6 : Value), own S (pfk S P (k + 1)) τ → iI (τ 0 16) = iI (ω 0 16 + pme S s) → (∀ j, 14 ≤ j → j ≠ 16 → τ 0 j = ω 0 j) → go z 4 0 0 mX11_minutes Q X 456 [.ref w, .int (iI (k : Nat)), u2, u3, u4, u5, u6] [] (ow w τ μ) := by
          intro τ u2 u3 u4 u5 u6 a1 a2 a3
          refine go_iinc (y := mX11_minutes) (pc := 456) dX11_minutes_456 rfl (by decide) ?_
          refine go_goto (y := mX11_minutes) (pc := 459) (tgt := 327) dX11_minutes_459 (by decide) ?_
          exact ih' (by omega) (k + 1) τ u2 u3 u4 u5 u6 (by omega) a1 a2 a3
        revert J456 eS
        revert limk wfk hO hX hE e10 c6 c6b r2
        generalize pfk S P k = t
        generalize pfk S P (k + 1) = t'
        intro hO wfk limk r2 e10 c6 c6b hX hE eS J456
        have J356 : ∀ (v : Int), (v = -1 → t' = t) → (v ≠ -1 → t 16 k = -1 ∧ v = fsl S t (t 0 6) ∧ 0 ≤ v ∧ v < t 11 0) → (-1 ≤ v ∧ v < 12) → go z 4 0 0 mX11_minutes Q X 356 [.ref w, .int (iI (k : Nat)), u2, u3, u4, u5, u6] [.int (iI v)] (ow w τ μ) := by
          intro v hv1 hv2 hvb
          refine go_istore_n (y := mX11_minutes) (pc := 356) dX11_minutes_356 rfl (by decide) ?_
          refine go_iload_n (y := mX11_minutes) (pc := 357) dX11_minutes_357 rfl rfl ?_
          refine go_if_ge (y := mX11_minutes) (pc := 358) (tgt := 364) dX11_minutes_358 (by decide) (by omega) (fun h358 => ?_) (fun h358 => ?_)
          · skip
            obtain ⟨p, hp⟩ := Int.eq_ofNat_of_zero_le (show 0 ≤ v by omega)
            obtain ⟨x1, x2, x3, x4⟩ := hv2 (by omega)
            have hp11 : (p : Int) < t 11 0 := by omega
            have hd := wfk.2.2.2.1 p hp11
            obtain ⟨m, hm⟩ := Int.eq_ofNat_of_zero_le hd.1
            obtain ⟨q, hq⟩ := Int.eq_ofNat_of_zero_le hd.2.2.1
            have hF := own_F hS wfk hO hp11
            have et : t' = spk S t k p := by rw [eS, if_pos ⟨x1, by omega⟩, ← x2, hp, Int.toNat_natCast]
            have e5 := (hO.2.1 m (by omega)).2.2.2.2
            refine go_loc (i := 2) hp rfl ?_
            have tail : ∀ (g : Int) (f : Int), g = t 14 p → f = (if g = 1 then 1 else 0) → (g = 1 ∨ g = -1) → go z 4 0 0 mX11_minutes Q X 450 [.ref w, .int (iI (k : Nat)), .int (iI (p : Nat)), u3, u4, u5, u6] [.int (iI g), .int (iI (q : Nat)), .ref (w + 9)] (ow w (wr (wr (wr (wr (wr (wr τ 11 k (m : Nat)) 12 k (q : Nat)) 15 k f) 16 k 0) 13 k (S 0 2)) 5 m (wp (t 4 m + 1))) μ) := by
              intro g f hg hf hgb
              refine go_wias (y := mX11_minutes) (pc := 450) (r := 9) (k := q) dX11_minutes_450 hw (by decide) rfl hz rfl (by omega) (by decide) (by omega) ?_
              refine go_aload_n (y := mX11_minutes) (pc := 451) dX11_minutes_451 rfl rfl ?_
              refine go_iload_n (y := mX11_minutes) (pc := 452) dX11_minutes_452 rfl rfl ?_
              refine go_callV1 (y := mX11_minutes) (pc := 453) (y' := mX11_removes) (kc2 := 0) (ks2 := 0) dX11_minutes_453 ml_X11_131 ok_X11_removes (ow_sh hw 0 (by decide)) ⟨_, _, rfl⟩ (by omega) rfl ⟨by decide, Nat.le_refl _, by decide, by decide, by decide⟩ (Nat.le_of_ble_eq_true rfl) rfl (o_removes hw hz (r := p) (by omega) ?_)
              refine J456 _ _ _ _ _ _ ?_ ?_ (fun j h1 h2 => ?_)
              · rw [et]
                exact own_spk hS wfk hO hk4 x1 hp11 hm hq hg hf
              · rw [wr_na (by decide), shf_o (by decide), wr_na (by decide), wr_na (by decide), wr_na (by decide), wr_na (by decide), wr_na (by decide), wr_na (by decide), wr_na (by decide)]
                exact he
              · rw [wr_na (by decide), shf_o (by decide), wr_na (by decide), wr_na (by decide), wr_na (by decide), wr_na (by decide), wr_na (by decide), wr_na (by decide), wr_na (by decide)]
                exact hj j h1 h2
            refine go_aload_n (y := mX11_minutes) (pc := 364) dX11_minutes_364 rfl rfl ?_
            refine go_getR (y := mX11_minutes) (pc := 365) dX11_minutes_365 fl_X11_40 (ow_sh hw 0 (by decide)) rfl (by omega) ?_
            refine go_iload_n (y := mX11_minutes) (pc := 368) dX11_minutes_368 rfl rfl ?_
            refine go_aload_n (y := mX11_minutes) (pc := 369) dX11_minutes_369 rfl rfl ?_
            refine go_iload_n (y := mX11_minutes) (pc := 370) dX11_minutes_370 rfl rfl ?_
            refine go_callV1 (y := mX11_minutes) (pc := 371) (y' := mX11_who) (kc2 := 0) (ks2 := 0) dX11_minutes_371 ml_X11_112 ok_X11_who (ow_sh hw 0 (by decide)) ⟨_, _, rfl⟩ (by omega) rfl ⟨by decide, Nat.le_refl _, by decide, by decide, by decide⟩ (Nat.le_of_ble_eq_true rfl) rfl (o_who hw hz hS wfk (r := p) hp11 hF ?_)
            rw [hm]
            refine go_wias (y := mX11_minutes) (pc := 374) (r := 11) (k := k) dX11_minutes_374 hw (by decide) rfl hz rfl (by omega) (by decide) (by omega) ?_
            refine go_aload_n (y := mX11_minutes) (pc := 375) dX11_minutes_375 rfl rfl ?_
            refine go_getR (y := mX11_minutes) (pc := 376) dX11_minutes_376 fl_X11_43 (ow_sh hw 0 (by decide)) rfl (by omega) ?_
            refine go_iload_n (y := mX11_minutes) (pc := 379) dX11_minutes_379 rfl rfl ?_
            refine go_aload_n (y := mX11_minutes) (pc := 380) dX11_minutes_380 rfl rfl ?_
            refine go_iload_n (y := mX11_minutes) (pc := 381) dX11_minutes_381 rfl rfl ?_
            refine go_callV1 (y := mX11_minutes) (pc := 382) (y' := mX11_what) (kc2 := 0) (ks2 := 0) dX11_minutes_382 ml_X11_116 ok_X11_what (ow_sh hw 0 (by decide)) ⟨_, _, rfl⟩ (by omega) rfl ⟨by decide, Nat.le_refl _, by decide, by decide, by decide⟩ (Nat.le_of_ble_eq_true rfl) rfl (o_what hw hz hS wfk (r := p) hp11 (by (repeat rw [wr_na (by decide)]); exact hF) ?_)
            rw [hq]
            refine go_wias (y := mX11_minutes) (pc := 385) (r := 12) (k := k) dX11_minutes_385 hw (by decide) rfl hz rfl (by omega) (by decide) (by omega) ?_
            refine go_aload_n (y := mX11_minutes) (pc := 386) dX11_minutes_386 rfl rfl ?_
            refine go_getR (y := mX11_minutes) (pc := 387) dX11_minutes_387 fl_X11_52 (ow_sh hw 0 (by decide)) rfl (by omega) ?_
            refine go_iload_n (y := mX11_minutes) (pc := 390) dX11_minutes_390 rfl rfl ?_
            refine go_aload_n (y := mX11_minutes) (pc := 391) dX11_minutes_391 rfl rfl ?_
            refine go_iload_n (y := mX11_minutes) (pc := 392) dX11_minutes_392 rfl rfl ?_
            refine go_callV1 (y := mX11_minutes) (pc := 393) (y' := mX11_isForAt) (kc2 := 0) (ks2 := 0) dX11_minutes_393 ml_X11_119 ok_X11_isForAt (ow_sh hw 0 (by decide)) ⟨_, _, rfl⟩ (by omega) rfl ⟨by decide, Nat.le_refl _, by decide, by decide, by decide⟩ (Nat.le_of_ble_eq_true rfl) rfl (o_isForAt hw hz hS wfk (r := p) hp11 (by (repeat rw [wr_na (by decide)]); exact hF) (fun v393 e393 b393 => ?_))
            refine go_wzas (y := mX11_minutes) (pc := 396) (r := 15) (k := k) dX11_minutes_396 hw (by decide) rfl hz rfl (by omega) (by decide) (by omega) ?_
            refine go_aload_n (y := mX11_minutes) (pc := 397) dX11_minutes_397 rfl rfl ?_
            refine go_getR (y := mX11_minutes) (pc := 398) dX11_minutes_398 fl_X11_56 (ow_sh hw 0 (by decide)) rfl (by omega) ?_
            refine go_iload_n (y := mX11_minutes) (pc := 401) dX11_minutes_401 rfl rfl ?_
            refine go_iconst (y := mX11_minutes) (pc := 402) dX11_minutes_402 ?_
            refine go_wzas (y := mX11_minutes) (pc := 403) (r := 16) (k := k) dX11_minutes_403 hw (by decide) rfl hz rfl (by omega) (by decide) (by omega) ?_
            refine go_aload_n (y := mX11_minutes) (pc := 404) dX11_minutes_404 rfl rfl ?_
            refine go_getR (y := mX11_minutes) (pc := 405) dX11_minutes_405 fl_X11_46 (ow_sh hw 0 (by decide)) rfl (by omega) ?_
            refine go_iload_n (y := mX11_minutes) (pc := 408) dX11_minutes_408 rfl rfl ?_
            refine go_aload_n (y := mX11_minutes) (pc := 409) dX11_minutes_409 rfl rfl ?_
            refine go_wget (y := mX11_minutes) (pc := 410) (r := 0) dX11_minutes_410 fl_X11_67 hw (by decide) rfl rfl hz (fun r410 => ?_)
            refine go_top (b := S 0 2) (e2) (fun t410 => ?_)
            refine go_wias (y := mX11_minutes) (pc := 413) (r := 13) (k := k) dX11_minutes_413 hw (by decide) rfl hz rfl (by omega) (by decide) (by have := hS.2.2.2.2.1; have := hS.2.2.2.2.2.1; omega) ?_
            refine go_aload_n (y := mX11_minutes) (pc := 414) dX11_minutes_414 rfl rfl ?_
            refine go_getR (y := mX11_minutes) (pc := 415) dX11_minutes_415 fl_X11_22 (ow_sh hw 0 (by decide)) rfl (by omega) ?_
            refine go_aload_n (y := mX11_minutes) (pc := 418) dX11_minutes_418 rfl rfl ?_
            refine go_iload_n (y := mX11_minutes) (pc := 419) dX11_minutes_419 rfl rfl ?_
            refine go_callV1 (y := mX11_minutes) (pc := 420) (y' := mX11_who) (kc2 := 0) (ks2 := 0) dX11_minutes_420 ml_X11_112 ok_X11_who (ow_sh hw 0 (by decide)) ⟨_, _, rfl⟩ (by omega) rfl ⟨by decide, Nat.le_refl _, by decide, by decide, by decide⟩ (Nat.le_of_ble_eq_true rfl) rfl (o_who hw hz hS wfk (r := p) hp11 (by (repeat rw [wr_na (by decide)]); exact hF) ?_)
            rw [hm]
            refine go_dup2 (y := mX11_minutes) (pc := 423) dX11_minutes_423 rfl rfl ?_
            refine go_wial (y := mX11_minutes) (pc := 424) (r := 5) (k := m) dX11_minutes_424 hw (by decide) rfl hz rfl (by omega) (by decide) (fun r424 => ?_)
            refine go_iconst (y := mX11_minutes) (pc := 425) dX11_minutes_425 ?_
            refine go_iadd (y := mX11_minutes) (pc := 426) dX11_minutes_426 ?_
            refine go_wiasW (y := mX11_minutes) (pc := 427) (r := 5) (k := m) dX11_minutes_427 hw (by decide) rfl hz rfl (by omega) (by decide)  ?_
            refine go_aload_n (y := mX11_minutes) (pc := 428) dX11_minutes_428 rfl rfl ?_
            refine go_getR (y := mX11_minutes) (pc := 429) dX11_minutes_429 fl_X11_34 (ow_sh hw 0 (by decide)) rfl (by omega) ?_
            refine go_aload_n (y := mX11_minutes) (pc := 432) dX11_minutes_432 rfl rfl ?_
            refine go_iload_n (y := mX11_minutes) (pc := 433) dX11_minutes_433 rfl rfl ?_
            refine go_callV1 (y := mX11_minutes) (pc := 434) (y' := mX11_what) (kc2 := 0) (ks2 := 0) dX11_minutes_434 ml_X11_116 ok_X11_what (ow_sh hw 0 (by decide)) ⟨_, _, rfl⟩ (by omega) rfl ⟨by decide, Nat.le_refl _, by decide, by decide, by decide⟩ (Nat.le_of_ble_eq_true rfl) rfl (o_what hw hz hS wfk (r := p) hp11 (by (repeat rw [wr_na (by decide)]); exact hF) ?_)
            rw [hq]
            refine go_aload_n (y := mX11_minutes) (pc := 437) dX11_minutes_437 rfl rfl ?_
            refine go_iload_n (y := mX11_minutes) (pc := 438) dX11_minutes_438 rfl rfl ?_
            refine go_callV1 (y := mX11_minutes) (pc := 439) (y' := mX11_isForAt) (kc2 := 0) (ks2 := 0) dX11_minutes_439 ml_X11_119 ok_X11_isForAt (ow_sh hw 0 (by decide)) ⟨_, _, rfl⟩ (by omega) rfl ⟨by decide, Nat.le_refl _, by decide, by decide, by decide⟩ (Nat.le_of_ble_eq_true rfl) rfl (o_isForAt hw hz hS wfk (r := p) hp11 (by (repeat rw [wr_na (by decide)]); exact hF) (fun v439 e439 b439 => ?_))
            refine go_if_eq (y := mX11_minutes) (pc := 442) (tgt := 449) dX11_minutes_442 (by decide) (by omega) (fun h442 => ?_) (fun h442 => ?_)
            · skip
              refine go_iconst (y := mX11_minutes) (pc := 449) dX11_minutes_449 ?_
              have h9 := tail (-1) v393 (by have := bI_0 e439 h442; omega) (by rw [e393, bI_f (bI_0 e439 h442)]; rfl) (by omega)
              rw [show wr (wr (wr (wr (wr τ 11 k (m : Nat)) 12 k (q : Nat)) 15 k v393) 16 k 0) 13 k (S 0 2) 5 m = t 4 m from e5]
              exact h9
            · skip
              refine go_iconst (y := mX11_minutes) (pc := 445) dX11_minutes_445 ?_
              refine go_goto (y := mX11_minutes) (pc := 446) (tgt := 450) dX11_minutes_446 (by decide) ?_
              have h9 := tail 1 v393 (by have := bI_1 e439 h442; omega) (by rw [e393, bI_t (bI_1 e439 h442)]; rfl) (by omega)
              rw [show wr (wr (wr (wr (wr τ 11 k (m : Nat)) 12 k (q : Nat)) 15 k v393) 16 k 0) 13 k (S 0 2) 5 m = t 4 m from e5]
              exact h9
          · skip
            skip
            refine go_goto (y := mX11_minutes) (pc := 361) (tgt := 456) dX11_minutes_361 (by decide) ?_
            refine J456 τ _ _ _ _ _ ?_ he hj
            rw [hv1 (by omega)]
            exact hO
        refine go_iload_n (y := mX11_minutes) (pc := 327) dX11_minutes_327 rfl rfl ?_
        refine go_aload_n (y := mX11_minutes) (pc := 328) dX11_minutes_328 rfl rfl ?_
        refine go_wget (y := mX11_minutes) (pc := 329) (r := 0) dX11_minutes_329 fl_X11_60 hw (by decide) rfl rfl hz (fun r329 => ?_)
        refine go_top (b := S 0 0) (e0) (fun t329 => ?_)
        refine go_icmp_ge (y := mX11_minutes) (pc := 332) (tgt := 462) dX11_minutes_332 (by decide) (by omega) (by omega) (fun h332 => ?_) (fun h332 => ?_)
        · skip
          exact absurd h332 (by omega)
        · skip
          refine go_aload_n (y := mX11_minutes) (pc := 335) dX11_minutes_335 rfl rfl ?_
          refine go_getR (y := mX11_minutes) (pc := 336) dX11_minutes_336 fl_X11_40 (ow_sh hw 0 (by decide)) rfl (by omega) ?_
          refine go_iload_n (y := mX11_minutes) (pc := 339) dX11_minutes_339 rfl rfl ?_
          refine go_wial (y := mX11_minutes) (pc := 340) (r := 11) (k := k) dX11_minutes_340 hw (by decide) rfl hz rfl (by omega) (by decide) (fun r340 => ?_)
          refine go_top (b := t 16 k) (hE.1) (fun t340 => ?_)
          refine go_if_lt (y := mX11_minutes) (pc := 341) (tgt := 348) dX11_minutes_341 (by decide) (by omega) (fun h341 => ?_) (fun h341 => ?_)
          · skip
            refine go_aload_n (y := mX11_minutes) (pc := 348) dX11_minutes_348 rfl rfl ?_
            refine go_aload_n (y := mX11_minutes) (pc := 349) dX11_minutes_349 rfl rfl ?_
            refine go_wget (y := mX11_minutes) (pc := 350) (r := 0) dX11_minutes_350 fl_X11_91 hw (by decide) rfl rfl hz (fun r350 => ?_)
            refine go_top (b := t 0 6) (e10) (fun t350 => ?_)
            refine go_callV1 (y := mX11_minutes) (pc := 353) (y' := mX11_firstBy) (kc2 := 0) (ks2 := 0) dX11_minutes_353 ml_X11_135 ok_X11_firstBy (ow_sh hw 0 (by decide)) ⟨_, _, rfl⟩ (by omega) rfl ⟨by decide, Nat.le_refl _, by decide, by decide, by decide⟩ (Nat.le_of_ble_eq_true rfl) rfl (o_firstBy hw hz hS wfk hO limk (by omega) (by omega) (fun v353 e353 b353 => ?_))
            refine J356 v353 (fun w9 => ?_) (fun w9 => ⟨by omega, e353, by omega, by omega⟩) (by omega)
            rw [eS, if_neg (fun w8 => w8.2 (e353 ▸ w9))]
          · skip
            refine go_iconst (y := mX11_minutes) (pc := 344) dX11_minutes_344 ?_
            refine go_goto (y := mX11_minutes) (pc := 345) (tgt := 356) dX11_minutes_345 (by decide) ?_
            exact J356 (-1) (fun _ => by rw [eS, if_neg (by omega)]) (fun w9 => absurd rfl w9) (by omega)
  have E1 : ∀ (k : Nat) (s2 τ1 : Mem) (sp q : Nat) (u2 u3 u4 u5 u6 : Value), k < 4 → (k : Int) < S 0 0 → own S s2 τ1 → s2 5 0 ≤ 16 → s2 16 k = sp → (sp : Int) < S 0 7 → s2 17 k = q → (q : Int) < s2 5 0 → (s2 18 k = 1 ∨ s2 18 k = -1) → (s2 20 k = 0 ∨ s2 20 k = 1) → (0 ≤ s2 8 q ∧ s2 8 q ≤ 9) → (∀ m : Nat, (m : Int) < S 0 7 → -20 ≤ ln s2 m q ∧ ln s2 m q ≤ 20) →
      (∀ (τ : Mem) (u2 u3 u4 u5 u6 : Value), own S (esp S s2 k) τ → iI (τ 0 16) = iI (τ1 0 16 + 1) → (∀ j, 14 ≤ j → j ≠ 16 → τ 0 j = τ1 0 j) → go z 4 0 0 mX11_minutes Q X 319 [.ref w, .int (iI (k : Nat)), u2, u3, u4, u5, u6] [] (ow w τ μ)) →
      go z 4 0 0 mX11_minutes Q X 114 [.ref w, .int (iI (k : Nat)), u2, u3, u4, u5, u6] [] (ow w τ1 μ) := by
    intro k s2 τ1 sp q u2 u3 u4 u5 u6 hk4 hk0 hO h16 hsp hsp7 hq hq5 hd h20 h8 hln J319
    have hE := (hO.2.2.2.2.1 k hk4)
    have hE2 := hE.2 (by omega)
    have esp0 : esp S s2 k = lve (wr (esk S s2 sp q (s2 18 k * (if 0 < s2 20 k then 1 else 2)) (S 0 7).toNat) 8 q (min (esk S s2 sp q (s2 18 k * (if 0 < s2 20 k then 1 else 2)) (S 0 7).toNat 8 q + 1) 9)) k := by
      unfold esp
      dsimp only
      rw [hsp, hq, Int.toNat_natCast, Int.toNat_natCast]
    obtain ⟨ch, hch⟩ : ∃ ch : Int, ch = s2 18 k * (if 0 < s2 20 k then 1 else 2) := ⟨_, rfl⟩
    rw [← hch] at esp0
    have hchb : -2 ≤ ch ∧ ch ≤ 2 := by rw [hch]; rcases hd with g | g <;> rw [g] <;> split <;> omega
    have tail : ∀ (τ2 : Mem) (u5 u6 : Value), own S (esk S s2 sp q ch (S 0 7).toNat) τ2 → (∀ j, 14 ≤ j → τ2 0 j = τ1 0 j) → go z 4 0 0 mX11_minutes Q X 277 [.ref w, .int (iI (k : Nat)), .int (iI (q : Nat)), .int (iI ch), .int (iI ((S 0 7).toNat : Nat)), u5, u6] [] (ow w τ2 μ) := by
      intro τ2 u5 u6 h2 hj
      have hq5' : (q : Int) < esk S s2 sp q ch (S 0 7).toNat 5 0 := by rw [esk_o (by decide)]; exact hq5
      have hq2 := h2.2.2.1 q hq5'
      have e8 : esk S s2 sp q ch (S 0 7).toNat 8 q = s2 8 q := esk_o (by decide) _
      rw [e8] at hq2 esp0
      have J300 : ∀ d : Int, s2 8 q + d = min (s2 8 q + 1) 9 → go z 4 0 0 mX11_minutes Q X 300 [.ref w, .int (iI (k : Nat)), .int (iI (q : Nat)), .int (iI ch), .int (iI ((S 0 7).toNat : Nat)), u5, u6] [.int (iI d), .int (iI (s2 8 q)), .int (iI (q : Nat)), .ref (w + 7)] (ow w τ2 μ) := by
        intro d hd9
        refine go_iadd (y := mX11_minutes) (pc := 300) dX11_minutes_300 ?_
        refine go_top (b := min (s2 8 q + 1) 9) (hd9) (fun t300 => ?_)
        refine go_wias (y := mX11_minutes) (pc := 301) (r := 7) (k := q) dX11_minutes_301 hw (by decide) rfl hz rfl (by omega) (by decide) (by omega) ?_
        refine go_aload_n (y := mX11_minutes) (pc := 302) dX11_minutes_302 rfl rfl ?_
        refine go_getR (y := mX11_minutes) (pc := 303) dX11_minutes_303 fl_X11_40 (ow_sh hw 0 (by decide)) rfl (by omega) ?_
        refine go_iload_n (y := mX11_minutes) (pc := 306) dX11_minutes_306 rfl rfl ?_
        refine go_iconst (y := mX11_minutes) (pc := 307) dX11_minutes_307 ?_
        refine go_wias (y := mX11_minutes) (pc := 308) (r := 11) (k := k) dX11_minutes_308 hw (by decide) rfl hz rfl (by omega) (by decide) (by omega) ?_
        refine go_aload_n (y := mX11_minutes) (pc := 309) dX11_minutes_309 rfl rfl ?_
        refine go_dup (y := mX11_minutes) (pc := 310) dX11_minutes_310 rfl ?_
        refine go_wget (y := mX11_minutes) (pc := 311) (r := 0) dX11_minutes_311 fl_X11_109 hw (by decide) rfl rfl hz (fun r311 => ?_)
        refine go_iconst (y := mX11_minutes) (pc := 314) dX11_minutes_314 ?_
        refine go_iadd (y := mX11_minutes) (pc := 315) dX11_minutes_315 ?_
        refine go_wputW (y := mX11_minutes) (pc := 316) (r := 0) dX11_minutes_316 fp_X11_109 hw (by decide) rfl rfl hz  ?_
        refine J319 _ _ _ _ _ _ ?_ ?_ (fun j h1 h2 => ?_)
        · rw [esp0]
          have g := own_esp (h := k) h2 hq5'
          rw [e8] at g
          exact own_x g (by decide)
        · rw [wr_s, iI_wp, wr_na (by decide), wr_na (by decide), hj 16 (by decide)]
        · rw [wr_ni h2, wr_na (by decide), wr_na (by decide)]
          exact hj j h1
      refine go_aload_n (y := mX11_minutes) (pc := 277) dX11_minutes_277 rfl rfl ?_
      refine go_getR (y := mX11_minutes) (pc := 278) dX11_minutes_278 fl_X11_28 (ow_sh hw 0 (by decide)) rfl (by omega) ?_
      refine go_iload_n (y := mX11_minutes) (pc := 281) dX11_minutes_281 rfl rfl ?_
      refine go_dup2 (y := mX11_minutes) (pc := 282) dX11_minutes_282 rfl rfl ?_
      refine go_wial (y := mX11_minutes) (pc := 283) (r := 7) (k := q) dX11_minutes_283 hw (by decide) rfl hz rfl (by omega) (by decide) (fun r283 => ?_)
      refine go_top (b := s2 8 q) (hq2.2.1) (fun t283 => ?_)
      refine go_aload_n (y := mX11_minutes) (pc := 284) dX11_minutes_284 rfl rfl ?_
      refine go_getR (y := mX11_minutes) (pc := 285) dX11_minutes_285 fl_X11_28 (ow_sh hw 0 (by decide)) rfl (by omega) ?_
      refine go_iload_n (y := mX11_minutes) (pc := 288) dX11_minutes_288 rfl rfl ?_
      refine go_wial (y := mX11_minutes) (pc := 289) (r := 7) (k := q) dX11_minutes_289 hw (by decide) rfl hz rfl (by omega) (by decide) (fun r289 => ?_)
      refine go_top (b := s2 8 q) (hq2.2.1) (fun t289 => ?_)
      refine go_bipush (y := mX11_minutes) (pc := 290) dX11_minutes_290 (by decide) ?_
      refine go_icmp_ge (y := mX11_minutes) (pc := 292) (tgt := 299) dX11_minutes_292 (by decide) (by omega) (by omega) (fun h292 => ?_) (fun h292 => ?_)
      · skip
        refine go_iconst (y := mX11_minutes) (pc := 299) dX11_minutes_299 ?_
        exact J300 0 (by omega)
      · skip
        refine go_iconst (y := mX11_minutes) (pc := 295) dX11_minutes_295 ?_
        refine go_goto (y := mX11_minutes) (pc := 296) (tgt := 300) dX11_minutes_296 (by decide) ?_
        exact J300 1 (by omega)
    have loop : ∀ (n m : Nat) (τ2 : Mem) (u5 u6 : Value), (m : Int) + n = S 0 7 → own S (esk S s2 sp q ch m) τ2 → (∀ j, 14 ≤ j → τ2 0 j = τ1 0 j) → go z 4 0 0 mX11_minutes Q X 154 [.ref w, .int (iI (k : Nat)), .int (iI (q : Nat)), .int (iI ch), .int (iI (m : Nat)), u5, u6] [] (ow w τ2 μ) := by
      intro n
      induction n using Nat.strongRecOn with
      | _ n ih =>
        intro m τ2 u5 u6 hm h2 hj
        have ih' := ih (n - 1)
        have e8 := h2.1.2.2.2.2.2.2.2.2.1
        have e3 := h2.1.2.2.2.1
        by_cases hmn : (m : Int) = S 0 7
        · have e : m = (S 0 7).toNat := by omega
          subst e
          refine go_iload (y := mX11_minutes) (pc := 154) dX11_minutes_154 rfl ?_
          refine go_aload_n (y := mX11_minutes) (pc := 156) dX11_minutes_156 rfl rfl ?_
          refine go_wget (y := mX11_minutes) (pc := 157) (r := 0) dX11_minutes_157 fl_X11_85 hw (by decide) rfl rfl hz (fun r157 => ?_)
          refine go_top (b := S 0 7) (e8) (fun t157 => ?_)
          refine go_icmp_ge (y := mX11_minutes) (pc := 160) (tgt := 277) dX11_minutes_160 (by decide) (by omega) (by omega) (fun h160 => ?_) (fun h160 => ?_)
          · skip
            exact tail τ2 _ _ h2 hj
          · skip
            exact absurd h160 (by omega)
        · have hm7 : (m : Int) < S 0 7 := by omega
          have hm12 : m < 12 := by omega
          have p1 := (h2.2.1 m hm7).2.1
          have p2 := (h2.2.1 sp hsp7).2.1
          have hw3 := wf_m hS m hm7
          have hw4 := wf_m hS sp hsp7
          have x16 : τ2 11 k = sp := by
            rw [(h2.2.2.2.2.1 k hk4).1, esk_o (by decide)]; exact hsp
          have hq5' : (q : Int) < esk S s2 sp q ch m 5 0 := by rw [esk_o (by decide)]; exact hq5
          have l1 := (h2.2.2.1 q hq5').2.2.2.2 m hm7
          have l2 : ln (esk S s2 sp q ch m) m q = ln s2 m q := by rw [ln_esk hm12 m (by omega), if_neg (by omega)]
          have l3 := hln m hm7
          have eS : esk S s2 sp q ch (m + 1) = if m ≠ sp ∧ ((S 3 m - S 3 sp).natAbs : Int) ≤ S 0 3 then sln (esk S s2 sp q ch m) m q (ln (esk S s2 sp q ch m) m q + ch) else esk S s2 sp q ch m := rfl
          have J271 : ∀ (τ3 : Mem) (u5 u6 : Value), own S (esk S s2 sp q ch (m + 1)) τ3 → (∀ j, 14 ≤ j → τ3 0 j = τ1 0 j) → go z 4 0 0 mX11_minutes Q X 271 [.ref w, .int (iI (k : Nat)), .int (iI (q : Nat)), .int (iI ch), .int (iI (m : Nat)), u5, u6] [] (ow w τ3 μ) := by
            intro τ3 u5 u6 h3 hj3
            refine go_iinc (y := mX11_minutes) (pc := 271) dX11_minutes_271 rfl (by decide) ?_
            refine go_goto (y := mX11_minutes) (pc := 274) (tgt := 154) dX11_minutes_274 (by decide) ?_
            exact ih' (by omega) (m + 1) τ3 u5 u6 (by omega) h3 hj3
          have J270 : ∀ (v f y : Int), m ≠ sp → ((S 3 m - S 3 sp).natAbs : Int) ≤ S 0 3 → v = clp (ln s2 m q + ch) → go z 4 0 0 mX11_minutes Q X 270 [.ref w, .int (iI (k : Nat)), .int (iI (q : Nat)), .int (iI ch), .int (iI (m : Nat)), .int (iI f), .int (iI y)] [.int (iI v), .int (iI (16 * m + q : Nat)), .ref (w + 10)] (ow w τ2 μ) := by
            intro v f y g1 g2 hv
            have hv2 := clp_b (ln s2 m q + ch)
            refine go_wias (y := mX11_minutes) (pc := 270) (r := 10) (k := (16 * m + q)) dX11_minutes_270 hw (by decide) rfl hz (by omega) (by omega) (by decide) (by omega) ?_
            refine J271 _ _ _ ?_ (fun j h1 => by rw [wr_na (by decide)]; exact hj j h1)
            rw [eS, if_pos ⟨g1, g2⟩, l2]
            unfold sln
            rw [← hv]
            exact own_ln hS (by rw [esk_o (by decide)]; exact h16) h2 (by omega) hm12
          refine go_iload (y := mX11_minutes) (pc := 154) dX11_minutes_154 rfl ?_
          refine go_aload_n (y := mX11_minutes) (pc := 156) dX11_minutes_156 rfl rfl ?_
          refine go_wget (y := mX11_minutes) (pc := 157) (r := 0) dX11_minutes_157 fl_X11_85 hw (by decide) rfl rfl hz (fun r157 => ?_)
          refine go_top (b := S 0 7) (e8) (fun t157 => ?_)
          refine go_icmp_ge (y := mX11_minutes) (pc := 160) (tgt := 277) dX11_minutes_160 (by decide) (by omega) (by omega) (fun h160 => ?_) (fun h160 => ?_)
          · skip
            exact absurd h160 (by omega)
          · skip
            refine go_aload_n (y := mX11_minutes) (pc := 163) dX11_minutes_163 rfl rfl ?_
            refine go_getR (y := mX11_minutes) (pc := 164) dX11_minutes_164 fl_X11_13 (ow_sh hw 0 (by decide)) rfl (by omega) ?_
            refine go_iload (y := mX11_minutes) (pc := 167) dX11_minutes_167 rfl ?_
            refine go_wial (y := mX11_minutes) (pc := 169) (r := 2) (k := m) dX11_minutes_169 hw (by decide) rfl hz rfl (by omega) (by decide) (fun r169 => ?_)
            refine go_top (b := S 3 m) (p1) (fun t169 => ?_)
            refine go_aload_n (y := mX11_minutes) (pc := 170) dX11_minutes_170 rfl rfl ?_
            refine go_getR (y := mX11_minutes) (pc := 171) dX11_minutes_171 fl_X11_13 (ow_sh hw 0 (by decide)) rfl (by omega) ?_
            refine go_aload_n (y := mX11_minutes) (pc := 174) dX11_minutes_174 rfl rfl ?_
            refine go_getR (y := mX11_minutes) (pc := 175) dX11_minutes_175 fl_X11_40 (ow_sh hw 0 (by decide)) rfl (by omega) ?_
            refine go_iload_n (y := mX11_minutes) (pc := 178) dX11_minutes_178 rfl rfl ?_
            refine go_wial (y := mX11_minutes) (pc := 179) (r := 11) (k := k) dX11_minutes_179 hw (by decide) rfl hz rfl (by omega) (by decide) (fun r179 => ?_)
            refine go_top (b := ((sp : Nat) : Int)) (x16) (fun t179 => ?_)
            refine go_wial (y := mX11_minutes) (pc := 180) (r := 2) (k := sp) dX11_minutes_180 hw (by decide) rfl hz rfl (by omega) (by decide) (fun r180 => ?_)
            refine go_top (b := S 3 sp) (p2) (fun t180 => ?_)
            refine go_isub (y := mX11_minutes) (pc := 181) dX11_minutes_181 ?_
            refine go_istore (y := mX11_minutes) (pc := 182) dX11_minutes_182 (by decide) ?_
            refine go_iload (y := mX11_minutes) (pc := 184) dX11_minutes_184 rfl ?_
            refine go_aload_n (y := mX11_minutes) (pc := 186) dX11_minutes_186 rfl rfl ?_
            refine go_getR (y := mX11_minutes) (pc := 187) dX11_minutes_187 fl_X11_40 (ow_sh hw 0 (by decide)) rfl (by omega) ?_
            refine go_iload_n (y := mX11_minutes) (pc := 190) dX11_minutes_190 rfl rfl ?_
            refine go_wial (y := mX11_minutes) (pc := 191) (r := 11) (k := k) dX11_minutes_191 hw (by decide) rfl hz rfl (by omega) (by decide) (fun r191 => ?_)
            refine go_top (b := ((sp : Nat) : Int)) (x16) (fun t191 => ?_)
            refine go_icmp_eq (y := mX11_minutes) (pc := 192) (tgt := 271) dX11_minutes_192 (by decide) (by omega) (by omega) (fun h192 => ?_) (fun h192 => ?_)
            · skip
              exact J271 τ2 _ _ (by rw [eS, if_neg (by omega)]; exact h2) hj
            · skip
              refine go_iload (y := mX11_minutes) (pc := 195) dX11_minutes_195 rfl ?_
              refine go_aload_n (y := mX11_minutes) (pc := 197) dX11_minutes_197 rfl rfl ?_
              refine go_wget (y := mX11_minutes) (pc := 198) (r := 0) dX11_minutes_198 fl_X11_70 hw (by decide) rfl rfl hz (fun r198 => ?_)
              refine go_top (b := S 0 3) (e3) (fun t198 => ?_)
              refine go_icmp_gt (y := mX11_minutes) (pc := 201) (tgt := 271) dX11_minutes_201 (by decide) (by omega) (by omega) (fun h201 => ?_) (fun h201 => ?_)
              · skip
                exact J271 τ2 _ _ (by rw [eS, if_neg (by omega)]; exact h2) hj
              · skip
                refine go_iload (y := mX11_minutes) (pc := 204) dX11_minutes_204 rfl ?_
                refine go_ineg (y := mX11_minutes) (pc := 206) dX11_minutes_206 ?_
                refine go_aload_n (y := mX11_minutes) (pc := 207) dX11_minutes_207 rfl rfl ?_
                refine go_wget (y := mX11_minutes) (pc := 208) (r := 0) dX11_minutes_208 fl_X11_70 hw (by decide) rfl rfl hz (fun r208 => ?_)
                refine go_top (b := S 0 3) (e3) (fun t208 => ?_)
                refine go_icmp_le (y := mX11_minutes) (pc := 211) (tgt := 217) dX11_minutes_211 (by decide) (by omega) (by omega) (fun h211 => ?_) (fun h211 => ?_)
                · skip
                  refine go_aload_n (y := mX11_minutes) (pc := 217) dX11_minutes_217 rfl rfl ?_
                  refine go_getR (y := mX11_minutes) (pc := 218) dX11_minutes_218 fl_X11_37 (ow_sh hw 0 (by decide)) rfl (by omega) ?_
                  refine go_bipush (y := mX11_minutes) (pc := 221) dX11_minutes_221 (by decide) ?_
                  refine go_iload (y := mX11_minutes) (pc := 223) dX11_minutes_223 rfl ?_
                  refine go_imul (y := mX11_minutes) (pc := 225) dX11_minutes_225 ?_
                  refine go_iload_n (y := mX11_minutes) (pc := 226) dX11_minutes_226 rfl rfl ?_
                  refine go_iadd (y := mX11_minutes) (pc := 227) dX11_minutes_227 ?_
                  refine go_wial (y := mX11_minutes) (pc := 228) (r := 10) (k := ((16 * m) + q)) dX11_minutes_228 hw (by decide) rfl hz (by omega) (by omega) (by decide) (fun r228 => ?_)
                  refine go_top (b := ln s2 m q) ((l1.trans l2)) (fun t228 => ?_)
                  refine go_iload_n (y := mX11_minutes) (pc := 229) dX11_minutes_229 rfl rfl ?_
                  refine go_iadd (y := mX11_minutes) (pc := 230) dX11_minutes_230 ?_
                  refine go_istore (y := mX11_minutes) (pc := 231) dX11_minutes_231 (by decide) ?_
                  refine go_aload_n (y := mX11_minutes) (pc := 233) dX11_minutes_233 rfl rfl ?_
                  refine go_getR (y := mX11_minutes) (pc := 234) dX11_minutes_234 fl_X11_37 (ow_sh hw 0 (by decide)) rfl (by omega) ?_
                  refine go_bipush (y := mX11_minutes) (pc := 237) dX11_minutes_237 (by decide) ?_
                  refine go_iload (y := mX11_minutes) (pc := 239) dX11_minutes_239 rfl ?_
                  refine go_imul (y := mX11_minutes) (pc := 241) dX11_minutes_241 ?_
                  refine go_iload_n (y := mX11_minutes) (pc := 242) dX11_minutes_242 rfl rfl ?_
                  refine go_iadd (y := mX11_minutes) (pc := 243) dX11_minutes_243 ?_
                  refine go_iload (y := mX11_minutes) (pc := 244) dX11_minutes_244 rfl ?_
                  refine go_bipush (y := mX11_minutes) (pc := 246) dX11_minutes_246 (by decide) ?_
                  refine go_icmp_le (y := mX11_minutes) (pc := 248) (tgt := 256) dX11_minutes_248 (by decide) (by omega) (by omega) (fun h248 => ?_) (fun h248 => ?_)
                  · skip
                    refine go_iload (y := mX11_minutes) (pc := 256) dX11_minutes_256 rfl ?_
                    refine go_bipush (y := mX11_minutes) (pc := 258) dX11_minutes_258 (by decide) ?_
                    refine go_icmp_ge (y := mX11_minutes) (pc := 260) (tgt := 268) dX11_minutes_260 (by decide) (by omega) (by omega) (fun h260 => ?_) (fun h260 => ?_)
                    · skip
                      refine go_iload (y := mX11_minutes) (pc := 268) dX11_minutes_268 rfl ?_
                      exact J270 _ _ _ (by omega) (by omega) (by rw [clp_i, if_neg (by omega), if_neg (by omega)])
                    · skip
                      refine go_bipush (y := mX11_minutes) (pc := 263) dX11_minutes_263 (by decide) ?_
                      refine go_goto (y := mX11_minutes) (pc := 265) (tgt := 270) dX11_minutes_265 (by decide) ?_
                      exact J270 _ _ _ (by omega) (by omega) (by rw [clp_i, if_neg (by omega), if_pos (by omega)])
                  · skip
                    refine go_bipush (y := mX11_minutes) (pc := 251) dX11_minutes_251 (by decide) ?_
                    refine go_goto (y := mX11_minutes) (pc := 253) (tgt := 270) dX11_minutes_253 (by decide) ?_
                    exact J270 _ _ _ (by omega) (by omega) (by rw [clp_i, if_pos (by omega)])
                · skip
                  refine go_goto (y := mX11_minutes) (pc := 214) (tgt := 271) dX11_minutes_214 (by decide) ?_
                  exact J271 τ2 _ _ (by rw [eS, if_neg (by omega)]; exact h2) hj
    have J149 : ∀ a b : Int, a * b = ch → go z 4 0 0 mX11_minutes Q X 149 [.ref w, .int (iI (k : Nat)), .int (iI (q : Nat)), u3, u4, u5, u6] [.int (iI b), .int (iI a)] (ow w τ1 μ) := by
      intro a b hab
      refine go_imul (y := mX11_minutes) (pc := 149) dX11_minutes_149 ?_
      refine go_top (b := ch) (hab) (fun t149 => ?_)
      refine go_istore_n (y := mX11_minutes) (pc := 150) dX11_minutes_150 rfl (by decide) ?_
      refine go_iconst (y := mX11_minutes) (pc := 151) dX11_minutes_151 ?_
      refine go_istore (y := mX11_minutes) (pc := 152) dX11_minutes_152 (by decide) ?_
      exact loop (S 0 7).toNat 0 τ1 _ _ (by omega) hO (fun _ _ => rfl)
    have J135 : ∀ a : Int, a = (if 0 < s2 20 k then 1 else 2) → go z 4 0 0 mX11_minutes Q X 135 [.ref w, .int (iI (k : Nat)), .int (iI (q : Nat)), u3, u4, u5, u6] [.int (iI a)] (ow w τ1 μ) := by
      intro a ha
      have e15 := hE2.2.2.1
      refine go_aload_n (y := mX11_minutes) (pc := 135) dX11_minutes_135 rfl rfl ?_
      refine go_getR (y := mX11_minutes) (pc := 136) dX11_minutes_136 fl_X11_52 (ow_sh hw 0 (by decide)) rfl (by omega) ?_
      refine go_iload_n (y := mX11_minutes) (pc := 139) dX11_minutes_139 rfl rfl ?_
      refine go_wzal (y := mX11_minutes) (pc := 140) (r := 15) (k := k) dX11_minutes_140 hw (by decide) rfl hz rfl (by omega) (by decide) (fun r140 => ?_)
      refine go_if_eq (y := mX11_minutes) (pc := 141) (tgt := 148) dX11_minutes_141 (by decide) (by omega) (fun h141 => ?_) (fun h141 => ?_)
      · skip
        refine go_iconst (y := mX11_minutes) (pc := 148) dX11_minutes_148 ?_
        exact J149 a (-1) (by rw [hch, ← ha, show s2 18 k = -1 by (split at e15 <;> omega)]; omega)
      · skip
        refine go_iconst (y := mX11_minutes) (pc := 144) dX11_minutes_144 ?_
        refine go_goto (y := mX11_minutes) (pc := 145) (tgt := 149) dX11_minutes_145 (by decide) ?_
        exact J149 a 1 (by rw [hch, ← ha, show s2 18 k = 1 by (split at e15 <;> omega)]; omega)
    have e16 := hE2.2.2.2
    refine go_aload_n (y := mX11_minutes) (pc := 114) dX11_minutes_114 rfl rfl ?_
    refine go_getR (y := mX11_minutes) (pc := 115) dX11_minutes_115 fl_X11_43 (ow_sh hw 0 (by decide)) rfl (by omega) ?_
    refine go_iload_n (y := mX11_minutes) (pc := 118) dX11_minutes_118 rfl rfl ?_
    refine go_wial (y := mX11_minutes) (pc := 119) (r := 12) (k := k) dX11_minutes_119 hw (by decide) rfl hz rfl (by omega) (by decide) (fun r119 => ?_)
    refine go_top (b := ((q : Nat) : Int)) ((hE2.1.trans hq)) (fun t119 => ?_)
    refine go_istore_n (y := mX11_minutes) (pc := 120) dX11_minutes_120 rfl (by decide) ?_
    refine go_aload_n (y := mX11_minutes) (pc := 121) dX11_minutes_121 rfl rfl ?_
    refine go_getR (y := mX11_minutes) (pc := 122) dX11_minutes_122 fl_X11_56 (ow_sh hw 0 (by decide)) rfl (by omega) ?_
    refine go_iload_n (y := mX11_minutes) (pc := 125) dX11_minutes_125 rfl rfl ?_
    refine go_wzal (y := mX11_minutes) (pc := 126) (r := 16) (k := k) dX11_minutes_126 hw (by decide) rfl hz rfl (by omega) (by decide) (fun r126 => ?_)
    refine go_if_eq (y := mX11_minutes) (pc := 127) (tgt := 134) dX11_minutes_127 (by decide) (by omega) (fun h127 => ?_) (fun h127 => ?_)
    · skip
      refine go_iconst (y := mX11_minutes) (pc := 134) dX11_minutes_134 ?_
      exact J135 2 (by rw [if_neg (by omega)])
    · skip
      refine go_iconst (y := mX11_minutes) (pc := 130) dX11_minutes_130 ?_
      refine go_goto (y := mX11_minutes) (pc := 131) (tgt := 135) dX11_minutes_131 (by decide) ?_
      exact J135 1 (by rw [if_pos (by omega)])
  have s3 : ∀ (n k : Nat) (τ : Mem) (u2 u3 u4 u5 u6 : Value), (k : Int) + n = S 0 0 → own S (pek S (pm1 S s) k).1 τ → iI (τ 0 16) = iI (ω 0 16 + (pek S (pm1 S s) k).2) → (∀ j, 14 ≤ j → j ≠ 16 → τ 0 j = ω 0 j) → go z 4 0 0 mX11_minutes Q X 72 [.ref w, .int (iI (k : Nat)), u2, u3, u4, u5, u6] [] (ow w τ μ) := by
    intro n
    induction n using Nat.strongRecOn with
    | _ n ih =>
      intro k τ u2 u3 u4 u5 u6 hk hO he hj
      have ih' := ih (n - 1)
      have wfk := wf_pek hS wf1 k (by omega)
      have e0 := hO.1.1
      by_cases hkn : (k : Int) = S 0 0
      · have e : k = (S 0 0).toNat := by omega
        refine go_iload_n (y := mX11_minutes) (pc := 72) dX11_minutes_72 rfl rfl ?_
        refine go_aload_n (y := mX11_minutes) (pc := 73) dX11_minutes_73 rfl rfl ?_
        refine go_wget (y := mX11_minutes) (pc := 74) (r := 0) dX11_minutes_74 fl_X11_60 hw (by decide) rfl rfl hz (fun r74 => ?_)
        refine go_top (b := S 0 0) (e0) (fun t74 => ?_)
        refine go_icmp_ge (y := mX11_minutes) (pc := 77) (tgt := 325) dX11_minutes_77 (by decide) (by omega) (by omega) (fun h77 => ?_) (fun h77 => ?_)
        · skip
          refine go_iconst (y := mX11_minutes) (pc := 325) dX11_minutes_325 ?_
          refine go_istore_n (y := mX11_minutes) (pc := 326) dX11_minutes_326 rfl (by decide) ?_
          subst e
          exact s4 (S 0 0).toNat 0 τ _ _ _ _ _ (by omega) hO he hj
        · skip
          exact absurd h77 (by omega)
      · have hk4 : k < 4 := by omega
        have eS : pek S (pm1 S s) (k + 1) = if (pek S (pm1 S s) k).1 16 k = -1 then pek S (pm1 S s) k
          else if wp ((pek S (pm1 S s) k).1 19 k - 1) = 0 then (esp S (wr (pek S (pm1 S s) k).1 19 k (wp ((pek S (pm1 S s) k).1 19 k - 1))) k, (pek S (pm1 S s) k).2 + 1)
          else (wr (pek S (pm1 S s) k).1 19 k (wp ((pek S (pm1 S s) k).1 19 k - 1)), (pek S (pm1 S s) k).2) := rfl
        have J319 : ∀ (τ : Mem) (u2 u3 u4 u5 u6 : Value), own S (pek S (pm1 S s) (k + 1)).1 τ → iI (τ 0 16) = iI (ω 0 16 + (pek S (pm1 S s) (k + 1)).2) → (∀ j, 14 ≤ j → j ≠ 16 → τ 0 j = ω 0 j) → go z 4 0 0 mX11_minutes Q X 319 [.ref w, .int (iI (k : Nat)), u2, u3, u4, u5, u6] [] (ow w τ μ) := by
          intro τ u2 u3 u4 u5 u6 a1 a2 a3
          refine go_iinc (y := mX11_minutes) (pc := 319) dX11_minutes_319 rfl (by decide) ?_
          refine go_goto (y := mX11_minutes) (pc := 322) (tgt := 72) dX11_minutes_322 (by decide) ?_
          exact ih' (by omega) (k + 1) τ u2 u3 u4 u5 u6 (by omega) a1 a2 a3
        revert J319 eS
        revert wfk hO he
        generalize pek S (pm1 S s) k = tc
        generalize pek S (pm1 S s) (k + 1) = tc'
        obtain ⟨t, cnt⟩ := tc
        dsimp only
        intro hO he wfk eS J319
        have hX := wfk.1.2.2.2.2.2 k hk4
        have hE := hO.2.2.2.2.1 k hk4
        have r2 := wf_r hS wfk.1
        refine go_iload_n (y := mX11_minutes) (pc := 72) dX11_minutes_72 rfl rfl ?_
        refine go_aload_n (y := mX11_minutes) (pc := 73) dX11_minutes_73 rfl rfl ?_
        refine go_wget (y := mX11_minutes) (pc := 74) (r := 0) dX11_minutes_74 fl_X11_60 hw (by decide) rfl rfl hz (fun r74 => ?_)
        refine go_top (b := S 0 0) (e0) (fun t74 => ?_)
        refine go_icmp_ge (y := mX11_minutes) (pc := 77) (tgt := 325) dX11_minutes_77 (by decide) (by omega) (by omega) (fun h77 => ?_) (fun h77 => ?_)
        · skip
          exact absurd h77 (by omega)
        · skip
          refine go_aload_n (y := mX11_minutes) (pc := 80) dX11_minutes_80 rfl rfl ?_
          refine go_getR (y := mX11_minutes) (pc := 81) dX11_minutes_81 fl_X11_40 (ow_sh hw 0 (by decide)) rfl (by omega) ?_
          refine go_iload_n (y := mX11_minutes) (pc := 84) dX11_minutes_84 rfl rfl ?_
          refine go_wial (y := mX11_minutes) (pc := 85) (r := 11) (k := k) dX11_minutes_85 hw (by decide) rfl hz rfl (by omega) (by decide) (fun r85 => ?_)
          refine go_top (b := t 16 k) (hE.1) (fun t85 => ?_)
          refine go_if_ge (y := mX11_minutes) (pc := 86) (tgt := 92) dX11_minutes_86 (by decide) (by omega) (fun h86 => ?_) (fun h86 => ?_)
          · skip
            have hE2 := hE.2 (by omega)
            have hX2 : 1 ≤ t 19 k ∧ t 19 k ≤ 20 := by omega
            have ew : wp (τ 13 k - 1) = t 19 k - 1 := by rw [hE2.2.1]; exact wp_of ⟨by omega, by omega⟩
            have ew2 : wp (t 19 k - 1) = t 19 k - 1 := wp_of ⟨by omega, by omega⟩
            have o19 : own S (wr t 19 k (wp (t 19 k - 1))) (wr τ 13 k (wp (τ 13 k - 1))) := by rw [ew, ew2]; exact own_19 hO
            refine go_aload_n (y := mX11_minutes) (pc := 92) dX11_minutes_92 rfl rfl ?_
            refine go_getR (y := mX11_minutes) (pc := 93) dX11_minutes_93 fl_X11_46 (ow_sh hw 0 (by decide)) rfl (by omega) ?_
            refine go_iload_n (y := mX11_minutes) (pc := 96) dX11_minutes_96 rfl rfl ?_
            refine go_dup2 (y := mX11_minutes) (pc := 97) dX11_minutes_97 rfl rfl ?_
            refine go_wial (y := mX11_minutes) (pc := 98) (r := 13) (k := k) dX11_minutes_98 hw (by decide) rfl hz rfl (by omega) (by decide) (fun r98 => ?_)
            refine go_iconst (y := mX11_minutes) (pc := 99) dX11_minutes_99 ?_
            refine go_isub (y := mX11_minutes) (pc := 100) dX11_minutes_100 ?_
            refine go_wiasW (y := mX11_minutes) (pc := 101) (r := 13) (k := k) dX11_minutes_101 hw (by decide) rfl hz rfl (by omega) (by decide)  ?_
            refine go_aload_n (y := mX11_minutes) (pc := 102) dX11_minutes_102 rfl rfl ?_
            refine go_getR (y := mX11_minutes) (pc := 103) dX11_minutes_103 fl_X11_46 (ow_sh hw 0 (by decide)) rfl (by omega) ?_
            refine go_iload_n (y := mX11_minutes) (pc := 106) dX11_minutes_106 rfl rfl ?_
            refine go_wial (y := mX11_minutes) (pc := 107) (r := 13) (k := k) dX11_minutes_107 hw (by decide) rfl hz rfl (by omega) (by decide) (fun r107 => ?_)
            refine go_top (b := wp (τ 13 k - 1)) (wr_s _ _ _ _) (fun t107 => ?_)
            refine go_if_le (y := mX11_minutes) (pc := 108) (tgt := 114) dX11_minutes_108 (by decide) (by omega) (fun h108 => ?_) (fun h108 => ?_)
            · skip
              obtain ⟨sp, hsp⟩ := Int.eq_ofNat_of_zero_le (show 0 ≤ t 16 k by omega)
              obtain ⟨q, hq⟩ := Int.eq_ofNat_of_zero_le (show 0 ≤ t 17 k by omega)
              have hq5 : (q : Int) < t 5 0 := by omega
              have hqc := wfk.1.2.2.1 q hq5
              have et : tc' = (esp S (wr t 19 k (wp (t 19 k - 1))) k, cnt + 1) := by
                rw [eS, if_neg (by omega), if_pos (by omega)]
              subst et
              refine E1 k (wr t 19 k (wp (t 19 k - 1))) _ sp q _ _ _ _ _ hk4 (by omega) o19 ?_ ?_ (by omega) ?_ ?_ ?_ ?_ ?_ (fun m hm => ?_) (fun τ' u2 u3 u4 u5 u6 a1 a2 a3 => J319 τ' u2 u3 u4 u5 u6 a1 ?_ (fun j h1 h2 => ?_))
              · rw [wr_na (by decide)]; exact r2.2.1
              · rw [wr_na (by decide)]; exact hsp
              · rw [wr_na (by decide)]; exact hq
              · rw [wr_na (by decide)]; exact hq5
              · rw [wr_na (by decide)]; omega
              · rw [wr_na (by decide)]; omega
              · rw [wr_na (by decide)]; exact ⟨hqc.2.2.2.2.1, hqc.2.2.2.2.2.1⟩
              · unfold ln; rw [wr_na (by decide)]; exact hqc.2.2.2.2.2.2.2.2 m hm
              · rw [a2, wr_na (by decide), ← iI_add, he, iI_add]
                show _ = iI (ω 0 16 + (cnt + 1))
                congr 1
                omega
              · rw [a3 j h1 h2, wr_na (by decide)]
                exact hj j h1 h2
            · skip
              refine go_goto (y := mX11_minutes) (pc := 111) (tgt := 319) dX11_minutes_111 (by decide) ?_
              have et : tc' = (wr t 19 k (wp (t 19 k - 1)), cnt) := by
                rw [eS, if_neg (by omega), if_neg (by omega)]
              subst et
              refine J319 _ _ _ _ _ _ o19 ?_ (fun j h1 h2 => by rw [wr_na (by decide)]; exact hj j h1 h2)
              rw [wr_na (by decide)]
              exact he
          · skip
            refine go_goto (y := mX11_minutes) (pc := 89) (tgt := 319) dX11_minutes_89 (by decide) ?_
            have et : tc' = (t, cnt) := by rw [eS, if_pos (by omega)]
            subst et
            exact J319 τ _ _ _ _ _ hO he hj
  have wM := wp_rng (s 0 5 + 1)
  have e1 : pm1 S s = dkB (wr s 0 5 (wp (s 0 5 + 1))) ((wp (s 0 5 + 1)).tmod (S 0 4) = 0) (s 5 0).toNat := by
    unfold pm1 dkB dry
    dsimp only
    rw [wr_na (by decide)]
    by_cases g : (wp (s 0 5 + 1)).tmod (S 0 4) = 0
    · rw [if_pos ⟨by omega, g⟩, if_pos g]
    · rw [if_neg (fun w9 => g w9.2), if_neg g]
  have s2 : ∀ (n k : Nat) (τ : Mem) (u2 u3 u4 u5 u6 : Value), (k : Int) + n = s 5 0 → own S (dkB (wr s 0 5 (wp (s 0 5 + 1))) ((wp (s 0 5 + 1)).tmod (S 0 4) = 0) k) τ → (∀ j, 14 ≤ j → τ 0 j = ω 0 j) → go z 4 0 0 mX11_minutes Q X 12 [.ref w, .int (iI (k : Nat)), u2, u3, u4, u5, u6] [] (ow w τ μ) := by
    intro n
    induction n using Nat.strongRecOn with
    | _ n ih =>
      intro k τ u2 u3 u4 u5 u6 hk hO hj
      have ih' := ih (n - 1)
      have e9 : τ 0 9 = s 5 0 := by
        have := hO.1.2.2.2.2.2.2.2.2.2.1
        rw [dkB_o (Or.inl (by decide)), wr_na (by decide)] at this
        exact this
      by_cases hkn : (k : Int) = s 5 0
      · have e : k = (s 5 0).toNat := by omega
        subst e
        rw [← e1] at hO
        refine go_iload_n (y := mX11_minutes) (pc := 12) dX11_minutes_12 rfl rfl ?_
        refine go_aload_n (y := mX11_minutes) (pc := 13) dX11_minutes_13 rfl rfl ?_
        refine go_wget (y := mX11_minutes) (pc := 14) (r := 0) dX11_minutes_14 fl_X11_88 hw (by decide) rfl rfl hz (fun r14 => ?_)
        refine go_top (b := s 5 0) (e9) (fun t14 => ?_)
        refine go_icmp_ge (y := mX11_minutes) (pc := 17) (tgt := 70) dX11_minutes_17 (by decide) (by omega) (by omega) (fun h17 => ?_) (fun h17 => ?_)
        · skip
          refine go_iconst (y := mX11_minutes) (pc := 70) dX11_minutes_70 ?_
          refine go_istore_n (y := mX11_minutes) (pc := 71) dX11_minutes_71 rfl (by decide) ?_
          exact s3 (S 0 0).toNat 0 τ _ _ _ _ _ (by omega) hO (by rw [hj 16 (by decide)]; show iI (ω 0 16) = iI (ω 0 16 + 0); congr 1; omega) (fun j h1 _ => hj j h1)
        · skip
          exact absurd h17 (by omega)
      · have hk5 : (k : Int) < dkB (wr s 0 5 (wp (s 0 5 + 1))) ((wp (s 0 5 + 1)).tmod (S 0 4) = 0) k 5 0 := by rw [dkB_o (Or.inl (by decide)), wr_na (by decide)]; omega
        have hc := hO.2.2.1 k hk5
        have c1 : τ 7 k = s 8 k := by rw [hc.2.1, dkB_o (Or.inr (Nat.le_refl _)), wr_na (by decide)]
        have c2 : τ 8 k = s 7 k := by rw [hc.2.2.1, dkB_o (Or.inl (by decide)), wr_na (by decide)]
        have c3 : τ 0 7 = wp (s 0 5 + 1) := by rw [hO.1.2.2.2.2.2.2.2.1, dkB_o (Or.inl (by decide)), wr_s]
        have c4 := hO.1.2.2.2.2.1
        have hb := hC.2.2.1 k (by omega)
        have b1 := Int.tmod_lt_of_pos (wp (s 0 5 + 1)) (show 0 < S 0 4 by omega)
        have b2 := Int.lt_tmod_of_pos (wp (s 0 5 + 1)) (show 0 < S 0 4 by omega)
        have J62 : ∀ d : Int, s 8 k - d = (if (wp (s 0 5 + 1)).tmod (S 0 4) = 0 ∧ s 7 k = 0 ∧ s 8 k > 0 then s 8 k - 1 else s 8 k) → go z 4 0 0 mX11_minutes Q X 62 [.ref w, .int (iI (k : Nat)), u2, u3, u4, u5, u6] [.int (iI d), .int (iI (s 8 k)), .int (iI (k : Nat)), .ref (w + 7)] (ow w τ μ) := by
          intro d hd
          refine go_isub (y := mX11_minutes) (pc := 62) dX11_minutes_62 ?_
          refine go_top (b := (if (wp (s 0 5 + 1)).tmod (S 0 4) = 0 ∧ s 7 k = 0 ∧ s 8 k > 0 then s 8 k - 1 else s 8 k)) (hd) (fun t62 => ?_)
          refine go_wias (y := mX11_minutes) (pc := 63) (r := 7) (k := k) dX11_minutes_63 hw (by decide) rfl hz rfl (by omega) (by decide) (by split <;> omega) ?_
          refine go_iinc (y := mX11_minutes) (pc := 64) dX11_minutes_64 rfl (by decide) ?_
          refine go_goto (y := mX11_minutes) (pc := 67) (tgt := 12) dX11_minutes_67 (by decide) ?_
          refine ih' (by omega) (k + 1) _ _ _ _ _ _ (by omega) ?_ (fun j h1 => by rw [wr_na (by decide)]; exact hj j h1)
          rw [dkB_s, wr_na (by decide), wr_na (by decide)]
          exact own_s8 hO hk5
        have J61 : (¬ ((wp (s 0 5 + 1)).tmod (S 0 4) = 0 ∧ s 7 k = 0 ∧ s 8 k > 0)) → go z 4 0 0 mX11_minutes Q X 61 [.ref w, .int (iI (k : Nat)), u2, u3, u4, u5, u6] [.int (iI (s 8 k)), .int (iI (k : Nat)), .ref (w + 7)] (ow w τ μ) := by
          intro hn
          refine go_iconst (y := mX11_minutes) (pc := 61) dX11_minutes_61 ?_
          exact J62 0 (by rw [if_neg hn]; omega)
        refine go_iload_n (y := mX11_minutes) (pc := 12) dX11_minutes_12 rfl rfl ?_
        refine go_aload_n (y := mX11_minutes) (pc := 13) dX11_minutes_13 rfl rfl ?_
        refine go_wget (y := mX11_minutes) (pc := 14) (r := 0) dX11_minutes_14 fl_X11_88 hw (by decide) rfl rfl hz (fun r14 => ?_)
        refine go_top (b := s 5 0) (e9) (fun t14 => ?_)
        refine go_icmp_ge (y := mX11_minutes) (pc := 17) (tgt := 70) dX11_minutes_17 (by decide) (by omega) (by omega) (fun h17 => ?_) (fun h17 => ?_)
        · skip
          exact absurd h17 (by omega)
        · skip
          refine go_aload_n (y := mX11_minutes) (pc := 20) dX11_minutes_20 rfl rfl ?_
          refine go_getR (y := mX11_minutes) (pc := 21) dX11_minutes_21 fl_X11_28 (ow_sh hw 0 (by decide)) rfl (by omega) ?_
          refine go_iload_n (y := mX11_minutes) (pc := 24) dX11_minutes_24 rfl rfl ?_
          refine go_dup2 (y := mX11_minutes) (pc := 25) dX11_minutes_25 rfl rfl ?_
          refine go_wial (y := mX11_minutes) (pc := 26) (r := 7) (k := k) dX11_minutes_26 hw (by decide) rfl hz rfl (by omega) (by decide) (fun r26 => ?_)
          refine go_top (b := s 8 k) (c1) (fun t26 => ?_)
          refine go_aload_n (y := mX11_minutes) (pc := 27) dX11_minutes_27 rfl rfl ?_
          refine go_getR (y := mX11_minutes) (pc := 28) dX11_minutes_28 fl_X11_31 (ow_sh hw 0 (by decide)) rfl (by omega) ?_
          refine go_iload_n (y := mX11_minutes) (pc := 31) dX11_minutes_31 rfl rfl ?_
          refine go_wial (y := mX11_minutes) (pc := 32) (r := 8) (k := k) dX11_minutes_32 hw (by decide) rfl hz rfl (by omega) (by decide) (fun r32 => ?_)
          refine go_top (b := s 7 k) (c2) (fun t32 => ?_)
          refine go_if_ne (y := mX11_minutes) (pc := 33) (tgt := 61) dX11_minutes_33 (by decide) (by omega) (fun h33 => ?_) (fun h33 => ?_)
          · skip
            exact J61 (fun w9 => h33 w9.2.1)
          · skip
            refine go_aload_n (y := mX11_minutes) (pc := 36) dX11_minutes_36 rfl rfl ?_
            refine go_wget (y := mX11_minutes) (pc := 37) (r := 0) dX11_minutes_37 fl_X11_82 hw (by decide) rfl rfl hz (fun r37 => ?_)
            refine go_top (b := wp (s 0 5 + 1)) (c3) (fun t37 => ?_)
            refine go_aload_n (y := mX11_minutes) (pc := 40) dX11_minutes_40 rfl rfl ?_
            refine go_wget (y := mX11_minutes) (pc := 41) (r := 0) dX11_minutes_41 fl_X11_73 hw (by decide) rfl rfl hz (fun r41 => ?_)
            refine go_top (b := S 0 4) (c4) (fun t41 => ?_)
            refine go_irem (y := mX11_minutes) (pc := 44) dX11_minutes_44 (by omega) (by omega) (by omega) ?_
            refine go_top (b := (wp (s 0 5 + 1)).tmod (S 0 4)) (by have := Int.tmod_add_mul_tdiv (wp (s 0 5 + 1)) (S 0 4); rw [Int.mul_comm] at this; omega) (fun t44 => ?_)
            refine go_if_ne (y := mX11_minutes) (pc := 45) (tgt := 61) dX11_minutes_45 (by decide) (by constructor <;> omega) (fun h45 => ?_) (fun h45 => ?_)
            · skip
              exact J61 (fun w9 => h45 w9.1)
            · skip
              refine go_aload_n (y := mX11_minutes) (pc := 48) dX11_minutes_48 rfl rfl ?_
              refine go_getR (y := mX11_minutes) (pc := 49) dX11_minutes_49 fl_X11_28 (ow_sh hw 0 (by decide)) rfl (by omega) ?_
              refine go_iload_n (y := mX11_minutes) (pc := 52) dX11_minutes_52 rfl rfl ?_
              refine go_wial (y := mX11_minutes) (pc := 53) (r := 7) (k := k) dX11_minutes_53 hw (by decide) rfl hz rfl (by omega) (by decide) (fun r53 => ?_)
              refine go_top (b := s 8 k) (c1) (fun t53 => ?_)
              refine go_if_le (y := mX11_minutes) (pc := 54) (tgt := 61) dX11_minutes_54 (by decide) (by omega) (fun h54 => ?_) (fun h54 => ?_)
              · skip
                exact J61 (fun w9 => by have := w9.2.2; omega)
              · skip
                refine go_iconst (y := mX11_minutes) (pc := 57) dX11_minutes_57 ?_
                refine go_goto (y := mX11_minutes) (pc := 58) (tgt := 62) dX11_minutes_58 (by decide) ?_
                exact J62 1 (by rw [if_pos ⟨h45, h33, h54⟩])
  refine go_aload_n (y := mX11_minutes) (pc := 0) dX11_minutes_0 rfl rfl ?_
  refine go_dup (y := mX11_minutes) (pc := 1) dX11_minutes_1 rfl ?_
  refine go_wget (y := mX11_minutes) (pc := 2) (r := 0) dX11_minutes_2 fl_X11_82 hw (by decide) rfl rfl hz (fun r2 => ?_)
  refine go_iconst (y := mX11_minutes) (pc := 5) dX11_minutes_5 ?_
  refine go_iadd (y := mX11_minutes) (pc := 6) dX11_minutes_6 ?_
  refine go_wputW (y := mX11_minutes) (pc := 7) (r := 0) dX11_minutes_7 fp_X11_82 hw (by decide) rfl rfl hz  ?_
  refine go_iconst (y := mX11_minutes) (pc := 10) dX11_minutes_10 ?_
  refine go_istore_n (y := mX11_minutes) (pc := 11) dX11_minutes_11 rfl (by decide) ?_
  have e7 := hR.1.2.2.2.2.2.2.2.1
  refine s2 (s 5 0).toNat 0 _ _ _ _ _ _ (by omega) ?_ (fun j h1 => by rw [wr_ni (by omega)])
  rw [e7, show dkB (wr s 0 5 (wp (s 0 5 + 1))) ((wp (s 0 5 + 1)).tmod (S 0 4) = 0) 0 = wr s 0 5 (wp (s 0 5 + 1)) by unfold dkB; rw [dry_k0]; split <;> rfl]
  exact own_n5 hR
