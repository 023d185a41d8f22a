/-! OWN: a minute -/
theorem own_19 {S s ω : Mem} {h : Nat} {v : Int} (hR : own S s ω) : own S (wr s 19 h v) (wr ω 13 h v) := by
  obtain ⟨a, b, c, d, e, f⟩ := hR
  refine ⟨a, b, c, d, fun i hi => ?_, f⟩
  have := e i hi
  by_cases g : i = h
  · subst g; rw [wr_s, wr_s]; exact ⟨this.1, fun w => ⟨(this.2 w).1, rfl, (this.2 w).2.2⟩⟩
  · rw [wr_ni g, wr_ni g]; exact this
theorem own_lve {S s ω : Mem} {h : Nat} (hR : own S s ω) : own S (lve s h) (wr ω 11 h (-1)) := by
  obtain ⟨a, b, c, d, e, f⟩ := hR
  refine ⟨a, b, c, d, fun i hi => ?_, f⟩
  have := e i hi
  have e16 : lve s h 16 i = if i = h then -1 else s 16 i := by
    unfold lve
    rw [wr_na (by decide), wr_na (by decide)]
    by_cases g : i = h
    · subst g; rw [wr_s, if_pos rfl]
    · rw [wr_ni g, if_neg g]
  rw [e16]
  by_cases g : i = h
  · subst g; rw [wr_s, if_pos rfl]; exact ⟨rfl, fun w => absurd rfl w⟩
  · rw [wr_ni g, if_neg g]
    unfold lve
    rw [wr_na (by decide), wr_na (by decide), wr_na (by decide), wr_na (by decide), wr_na (by decide), wr_na (by decide), wr_na (by decide), wr_ni g, wr_na (by decide), wr_na (by decide), wr_na (by decide), wr_ni g]
    exact this
theorem own_ln {S s ω : Mem} {m q : Nat} {v : Int} (hS : wfS S) (hC : wfC S s) (hR : own S s ω) (hq : q < 16) (hm : m < 12) : own S (wr s 10 (q * 12 + m) v) (wr ω 10 (16 * m + q) v) := by
  have n1 := wf_n hS
  have r1 := wf_r hS hC
  obtain ⟨a, b, c, d, e, f⟩ := hR
  refine ⟨a, b, fun k hk => ?_, d, e, f⟩
  have := c k hk
  refine ⟨this.1, this.2.1, this.2.2.1, this.2.2.2.1, fun i hi => ?_⟩
  have h9 := this.2.2.2.2 i hi
  have hk0 : (k : Int) < s 5 0 := hk
  unfold ln at h9 ⊢
  by_cases g : k = q ∧ i = m
  · obtain ⟨rfl, rfl⟩ := g
    rw [wr_s, wr_s]
  · rw [wr_ni (by omega), wr_ni (by omega)]
    exact h9
theorem dry_k0 (t : Mem) : dry_k t 0 = t := by funext r j; unfold dry_k; rw [if_neg (by omega)]
theorem dry_ks (t : Mem) (k : Nat) : dry_k t (k + 1) = wr (dry_k t k) 8 k (if t 7 k = 0 ∧ t 8 k > 0 then t 8 k - 1 else t 8 k) := by
  funext r j
  unfold wr dry_k
  by_cases h1 : r = 8 ∧ j = k
  · obtain ⟨rfl, rfl⟩ := h1
    rw [if_pos (⟨rfl, rfl⟩ : (8 : Nat) = 8 ∧ j = j)]
    by_cases g : t 7 j = 0 ∧ t 8 j > 0
    · rw [if_pos ⟨rfl, by omega, g.1, g.2⟩, if_pos g]
    · rw [if_neg (fun w => g ⟨w.2.2.1, w.2.2.2⟩), if_neg g]
  · rw [if_neg h1]
    by_cases g : r = 8 ∧ j < k ∧ t 7 j = 0 ∧ t 8 j > 0
    · rw [if_pos g, if_pos ⟨g.1, by omega, g.2.2⟩]
    · rw [if_neg g, if_neg (fun w => g ⟨w.1, by omega, w.2.2⟩)]
def dkB (t : Mem) (B : Prop) [Decidable B] (k : Nat) : Mem := if B then dry_k t k else t
theorem dkB_s {t : Mem} {B : Prop} [Decidable B] {k : Nat} : dkB t B (k + 1) = wr (dkB t B k) 8 k (if B ∧ t 7 k = 0 ∧ t 8 k > 0 then t 8 k - 1 else t 8 k) := by
  unfold dkB
  by_cases h : B
  · rw [if_pos h, if_pos h, dry_ks]
    by_cases g : t 7 k = 0 ∧ t 8 k > 0
    · rw [if_pos g, if_pos ⟨h, g⟩]
    · rw [if_neg g, if_neg (fun w => g w.2)]
  · rw [if_neg h, if_neg h, if_neg (fun w => h w.1), wr_same rfl]
theorem dkB_o {t : Mem} {B : Prop} [Decidable B] {k r j : Nat} (h : r ≠ 8 ∨ k ≤ j) : dkB t B k r j = t r j := by
  unfold dkB
  split
  · unfold dry_k; rw [if_neg (by omega)]
  · rfl
theorem own_esp {S s ω : Mem} {h q : Nat} (hR : own S s ω) (hq : (q : Int) < s 5 0) : own S (lve (wr s 8 q (min (s 8 q + 1) 9)) h) (wr (wr ω 7 q (min (s 8 q + 1) 9)) 11 h (-1)) := own_lve (own_s8 hR hq)
/-- a speech starts -/
theorem own_sit {S s ω : Mem} {h : Nat} {m q d f T : Int} (hR : own S s ω) (h20 : s 20 h = 0) (hf : f = if d = 1 then 1 else 0) :
    own S (wr (wr (wr (wr s 16 h m) 17 h q) 18 h d) 19 h T) (wr (wr (wr (wr (wr ω 11 h m) 12 h q) 15 h f) 16 h 0) 13 h T) := by
  obtain ⟨a, b, c, e, g, k⟩ := hR
  refine ⟨a, b, c, e, fun i hi => ?_, k⟩
  have := g i hi
  have o : ∀ r, r ≠ 16 → r ≠ 17 → r ≠ 18 → r ≠ 19 → wr (wr (wr (wr s 16 h m) 17 h q) 18 h d) 19 h T r i = s r i := fun r h1 h2 h3 h4 => by rw [wr_na h4, wr_na h3, wr_na h2, wr_na h1]
  by_cases w : i = h
  · subst w
    rw [o 20 (by decide) (by decide) (by decide) (by decide)]
    have x16 : wr (wr (wr (wr s 16 i m) 17 i q) 18 i d) 19 i T 16 i = m := by rw [wr_na (by decide), wr_na (by decide), wr_na (by decide), wr_s]
    have x17 : wr (wr (wr (wr s 16 i m) 17 i q) 18 i d) 19 i T 17 i = q := by rw [wr_na (by decide), wr_na (by decide), wr_s]
    have x18 : wr (wr (wr (wr s 16 i m) 17 i q) 18 i d) 19 i T 18 i = d := by rw [wr_na (by decide), wr_s]
    rw [x16, x17, x18, wr_s, wr_s, h20]
    refine ⟨?_, fun _ => ⟨?_, rfl, ?_, ?_⟩⟩
    · rw [wr_na (by decide), wr_na (by decide), wr_na (by decide), wr_na (by decide), wr_s]
    · rw [wr_na (by decide), wr_na (by decide), wr_na (by decide), wr_s]
    · rw [wr_na (by decide), wr_na (by decide), wr_s]; exact hf
    · rw [wr_na (by decide), wr_s]
  · simp only [wr_ni w]
    exact this
theorem own_spk {S s ω : Mem} {h p m q : Nat} {f d : Int} (hS : wfS S) (hC : wfC S s) (hR : own S s ω) (hh : h < 4) (ho : s 16 h = -1) (hp : (p : Int) < s 11 0) (hm : s 12 p = m) (hq : s 13 p = q) (hd : d = s 14 p) (hf : f = if d = 1 then 1 else 0) :
    own S (spk S s h p) (wr (shf (wr (wr (wr (wr (wr (wr (wr ω 11 h m) 12 h q) 15 h f) 16 h 0) 13 h (S 0 2)) 5 m (wp (s 4 m + 1))) 9 q d) p 12) 14 12 0) := by
  have hd0 := hC.2.2.2.1 p hp
  have hx := hC.2.2.2.2.2 h hh
  have g1 := own_rmv hS hC hR hp
  have g2 := own_sit (h := h) (m := m) (q := q) (d := d) (f := f) (T := S 0 2) g1 (by rw [rmv_o (by omega)]; omega) hf
  have g3 := own_s9 (q := q) (v := d) g2 (by show (q : Int) < wr (wr (wr (wr (rmv s p) 16 h m) 17 h q) 18 h d) 19 h (S 0 2) 5 0; rw [wr_na (by decide), wr_na (by decide), wr_na (by decide), wr_na (by decide), rmv_o (by omega)]; omega)
  have g4 := own_s4 (m := m) (v := wp (s 4 m + 1)) g3
  have e1 : spk S s h p = wr (wr (wr (wr (wr (wr (rmv s p) 16 h m) 17 h q) 18 h d) 19 h (S 0 2)) 9 q d) 4 m (wp (s 4 m + 1)) := by
    unfold spk
    dsimp only
    rw [hm, hq, Int.toNat_natCast, Int.toNat_natCast, ← hd]
    rw [show wr (wr (wr (wr (wr (rmv s p) 16 h m) 17 h q) 18 h d) 19 h (S 0 2)) 9 q d 4 m = s 4 m by rw [wr_na (by decide), wr_na (by decide), wr_na (by decide), wr_na (by decide), wr_na (by decide), rmv_o (by omega)]]
  rw [e1]
  have e2 : wr (shf (wr (wr (wr (wr (wr (wr (wr ω 11 h m) 12 h q) 15 h f) 16 h 0) 13 h (S 0 2)) 5 m (wp (s 4 m + 1))) 9 q d) p 12) 14 12 0 = wr (wr (wr (wr (wr (wr (wr (wr (shf ω p 12) 14 12 0) 11 h m) 12 h q) 15 h f) 16 h 0) 13 h (S 0 2)) 9 q d) 5 m (wp (s 4 m + 1)) := by
    funext a j
    unfold shf wr
    by_cases ha : a = 14
    · subst ha
      simp
    · simp only [ha, false_and, if_false]
      by_cases h5 : a = 5 ∧ j = m
      · obtain ⟨rfl, rfl⟩ := h5; simp
      · by_cases h9 : a = 9 ∧ j = q
        · obtain ⟨rfl, rfl⟩ := h9; simp
        · simp [h5, h9]
  rw [e2]
  exact g4
theorem clp_i (v : Int) : clp v = if 20 < v then 20 else if v < -20 then -20 else v := by unfold clp; (repeat' split) <;> omega
theorem lim_esk {S s : Mem} {N : Int} {sp q : Nat} {ch : Int} {k : Nat} (h : lim S s N) : lim S (esk S s sp q ch k) N := fun m hm => by rw [esk_o (by decide)]; exact h m hm
theorem lim_pek {S s : Mem} {N : Int} (h : lim S s N) : ∀ k : Nat, lim S (pek S s k).1 N
  | 0 => h
  | k + 1 => by
    have ih := lim_pek h k
    intro m hm
    rw [pek]
    split
    · exact ih m hm
    · split
      · show 0 ≤ esp S _ k 4 m ∧ esp S _ k 4 m ≤ N
        rw [esp_o (by decide), wr_na (by decide)]; exact ih m hm
      · show 0 ≤ wr _ 19 k _ 4 m ∧ wr _ 19 k _ 4 m ≤ N
        rw [wr_na (by decide)]; exact ih m hm
theorem spk_4 {S s : Mem} {h p j : Nat} : spk S s h p 4 j = if j = (s 12 p).toNat then wp (s 4 j + 1) else s 4 j := by
  unfold spk
  dsimp only
  rw [show wr (wr (wr (wr (wr (rmv s p) 16 h _) 17 h _) 18 h _) 19 h (S 0 2)) 9 _ _ 4 (s 12 p).toNat = s 4 (s 12 p).toNat by rw [wr_na (by decide), wr_na (by decide), wr_na (by decide), wr_na (by decide), wr_na (by decide), rmv_o (by omega)]]
  by_cases g : j = (s 12 p).toNat
  · subst g; rw [wr_s, if_pos rfl]
  · rw [wr_ni g, if_neg g, wr_na (by decide), wr_na (by decide), wr_na (by decide), wr_na (by decide), wr_na (by decide), rmv_o (by omega)]
theorem lim_pfk {S s : Mem} {N : Int} (h : lim S s N) (hN : N ≤ 1000000) : ∀ k : Nat, k ≤ 4 → lim S (pfk S s k) (N + k)
  | 0, _ => fun m hm => by have := h m hm; show 0 ≤ s 4 m ∧ s 4 m ≤ N + ((0 : Nat) : Int); omega
  | k + 1, hk => by
    have ih := lim_pfk h hN k (by omega)
    intro m hm
    have h2 := ih m hm
    rw [pfk]
    split
    · rw [spk_4]
      split
      · rw [wp_of ⟨by omega, by omega⟩]; omega
      · omega
    · omega
theorem lim_pm1 {S s : Mem} {N : Int} (h : lim S s N) : lim S (pm1 S s) N := fun m hm => by
  have := h m hm
  unfold pm1
  dsimp only
  split
  · rw [dry_o (by decide), wr_na (by decide)]; exact this
  · rw [wr_na (by decide)]; exact this
theorem lim_pmn {S s : Mem} {N : Int} (hS : wfS S) (h : lim S s N) (hN : N ≤ 1000000) : lim S (pmn S s) (N + 4) := fun m hm => by
  have n1 := wf_n hS
  have := lim_pfk (lim_pek (lim_pm1 h) (S 0 0).toNat) hN (S 0 0).toNat (by omega) m hm
  unfold pmn
  omega
set_option maxRecDepth 8000 in
set_option maxHeartbeats 4000000 in
theorem o_minutes {z w : Nat} (hw : is_ow w) (hz : w + 17 ≤ z) {S s ω μ : Mem} (hS : wfS S) (hC : wfC S s) (hR : own S s ω) {N : Int} (hL : lim S s N) (hN : N ≤ 1000000) {Q : Option Value → Mem → Prop} {X : String → Mem → Prop} (K : ∀ ω', own S (pmn S s) ω' → iI (ω' 0 16) = iI (ω 0 16 + pme S s) → (∀ j, 14 ≤ j → j ≠ 16 → ω' 0 j = ω 0 j) → Q none (ow w ω' μ)) : mt z 4 0 0 mX11_minutes [.ref w] Q X (ow w ω μ) := by
  show go z 4 0 0 mX11_minutes Q X 0 [.ref w, .null, .null, .null, .null, .null, .null] [] _
  have n1 := wf_n hS
  have r1 := wf_r hS hC
  have d2 := hS.2.2.2.2.2.2.2.2.1
  have d30 := hS.2.2.2.2.2.2.2.2.2.1
  have wf1 := wf_pm1 hC (S := S)
  have s4 : ∀ (n k : Nat) (τ : Mem) (u2 u3 u4 u5 u6 : Value), (k : Int) + n = S 0 0 → own S (pfk S (pek S (pm1 S s) (S 0 0).toNat).1 k) τ → iI (τ 0 16) = iI (ω 0 16 + pme S s) → (∀ j, 14 ≤ j → j ≠ 16 → τ 0 j = ω 0 j) → go z 4 0 0 mX11_minutes Q X 327 [.ref w, .int (iI (k : Nat)), u2, u3, u4, u5, u6] [] (ow w τ μ) := by
    have wfp := wf_pek hS wf1 (S 0 0).toNat (by omega)
    have limp := lim_pek (lim_pm1 hL) (S := S) (S 0 0).toNat
    have K' := K
    unfold pmn at K'
    revert wfp limp K'
    generalize (pek S (pm1 S s) (S 0 0).toNat).1 = P
    intro wfp limp K' n
    induction n using Nat.strongRecOn with
    | _ n ih =>
      intro k τ u2 u3 u4 u5 u6 hk hO he hj
      have ih' := ih (n - 1)
      have wfk := wf_pfk hS wfp.1 k (by omega)
      have limk := lim_pfk limp hN k (by omega)
      have r2 := wf_r hS wfk
      have e0 := hO.1.1
      have e10 := hO.1.2.2.2.2.2.2.2.2.2.2.1
      have c6 := wfk.1.2.2.2.2.1
      have c6b := wfk.1.2.2.2.2.2.1
      have eS : pfk S P (k + 1) = if pfk S P k 16 k = -1 ∧ fsl S (pfk S P k) (pfk S P k 0 6) ≠ -1 then spk S (pfk S P k) k (fsl S (pfk S P k) (pfk S P k 0 6)).toNat else pfk S P k := rfl
      have e2 := hO.1.2.2.1
      by_cases hkn : (k : Int) = S 0 0
      · @at 327 r:w, i:k, v:u2, v:u3, v:u4, v:u5, v:u6
        refine go_aload_n (y := mX11_minutes) (pc := 0) dX11_minutes_0 rfl rfl ?_
        refine go_dup (y := mX11_minutes) (pc := 1) dX11_minutes_1 rfl ?_
        refine go_wget (y := mX11_minutes) (pc := 2) (r := 0) dX11_minutes_2 fl_X11_82 hw (by decide) rfl rfl hz (fun r2 => ?_)
        refine go_iconst (y := mX11_minutes) (pc := 5) dX11_minutes_5 ?_
        refine go_iadd (y := mX11_minutes) (pc := 6) dX11_minutes_6 ?_
        refine go_wput (y := mX11_minutes) (pc := 7) (r := 0) dX11_minutes_7 fp_X11_82 hw (by decide) rfl rfl hz (by omega) ?_
        refine go_iconst (y := mX11_minutes) (pc := 10) dX11_minutes_10 ?_
        refine go_istore_n (y := mX11_minutes) (pc := 11) dX11_minutes_11 rfl (by decide) ?_
        refine go_iload_n (y := mX11_minutes) (pc := 12) dX11_minutes_12 rfl rfl ?_
        refine go_aload_n (y := mX11_minutes) (pc := 13) dX11_minutes_13 rfl rfl ?_
        refine go_wget (y := mX11_minutes) (pc := 14) (r := 0) dX11_minutes_14 fl_X11_88 hw (by decide) rfl rfl hz (fun r14 => ?_)
        refine go_icmp_ge (y := mX11_minutes) (pc := 17) (tgt := 70) dX11_minutes_17 (by decide) (by omega) (by omega) (fun h17 => ?_) (fun h17 => ?_)
        · skip
          refine go_iconst (y := mX11_minutes) (pc := 70) dX11_minutes_70 ?_
          refine go_istore_n (y := mX11_minutes) (pc := 71) dX11_minutes_71 rfl (by decide) ?_
          refine go_iload_n (y := mX11_minutes) (pc := 72) dX11_minutes_72 rfl rfl ?_
          refine go_aload_n (y := mX11_minutes) (pc := 73) dX11_minutes_73 rfl rfl ?_
          refine go_wget (y := mX11_minutes) (pc := 74) (r := 0) dX11_minutes_74 fl_X11_60 hw (by decide) rfl rfl hz (fun r74 => ?_)
          refine go_icmp_ge (y := mX11_minutes) (pc := 77) (tgt := 325) dX11_minutes_77 (by decide) (by omega) (by omega) (fun h77 => ?_) (fun h77 => ?_)
          have e : k = (S 0 0).toNat := by omega
          subst e
          exact K' τ hO he hj
        · skip
          exact absurd h332 (by omega)
      · have hk4 : k < 4 := by omega
        have hX := wfk.2.2.2.2.2 k hk4
        have hE := hO.2.2.2.2.1 k hk4
        have J456 : ∀ (τ : Mem) (u2 u3 u4 u5 u6 : Value), own S (pfk S P (k + 1)) τ → iI (τ 0 16) = iI (ω 0 16 + pme S s) → (∀ j, 14 ≤ j → j ≠ 16 → τ 0 j = ω 0 j) → go z 4 0 0 mX11_minutes Q X 456 [.ref w, .int (iI (k : Nat)), u2, u3, u4, u5, u6] [] (ow w τ μ) := by
          intro τ u2 u3 u4 u5 u6 a1 a2 a3
          refine go_iinc (y := mX11_minutes) (pc := 456) dX11_minutes_456 rfl (by decide) ?_
          refine go_goto (y := mX11_minutes) (pc := 459) (tgt := 327) dX11_minutes_459 (by decide) ?_
          exact ih' (by omega) (k + 1) τ u2 u3 u4 u5 u6 (by omega) a1 a2 a3
        revert J456 eS
        revert limk wfk hO hX hE e10 c6 c6b r2
        generalize pfk S P k = t
        generalize pfk S P (k + 1) = t'
        intro limk wfk hO hX hE e10 c6 c6b r2 J456 eS
        have J356 : ∀ (v : Int), (v = -1 → t' = t) → (v ≠ -1 → t 16 k = -1 ∧ v = fsl S t (t 0 6) ∧ 0 ≤ v ∧ v < t 11 0) → (-1 ≤ v ∧ v < 12) → go z 4 0 0 mX11_minutes Q X 356 [.ref w, .int (iI (k : Nat)), u2, u3, u4, u5, u6] [.int (iI v)] (ow w τ μ) := by
          intro v hv1 hv2 hvb
          refine go_istore_n (y := mX11_minutes) (pc := 356) dX11_minutes_356 rfl (by decide) ?_
          refine go_iload_n (y := mX11_minutes) (pc := 357) dX11_minutes_357 rfl rfl ?_
          refine go_if_ge (y := mX11_minutes) (pc := 358) (tgt := 364) dX11_minutes_358 (by decide) (by omega) (fun h358 => ?_) (fun h358 => ?_)
          · skip
            obtain ⟨p, hp⟩ := Int.eq_ofNat_of_zero_le (show 0 ≤ v by omega)
            obtain ⟨x1, x2, x3, x4⟩ := hv2 (by omega)
            have hp11 : (p : Int) < t 11 0 := by omega
            have hd := wfk.2.2.2.1 p hp11
            obtain ⟨m, hm⟩ := Int.eq_ofNat_of_zero_le hd.1
            obtain ⟨q, hq⟩ := Int.eq_ofNat_of_zero_le hd.2.2.1
            have hF := own_F hS wfk hO hp11
            have et : t' = spk S t k p := by rw [eS, if_pos ⟨x1, by omega⟩, ← x2, hp, Int.toNat_natCast]
            have e5 := (hO.2.1 m (by omega)).2.2.2.2
            refine go_loc (i := 2) hp rfl ?_
            have tail : ∀ (g : Int) (f : Int), g = t 14 p → f = (if g = 1 then 1 else 0) → (g = 1 ∨ g = -1) → go z 4 0 0 mX11_minutes Q X 450 [.ref w, .int (iI (k : Nat)), .int (iI (p : Nat)), u3, u4, u5, u6] [.int (iI g), .int (iI (q : Nat)), .ref (w + 9)] (ow w (wr (wr (wr (wr (wr (wr τ 11 k (m : Nat)) 12 k (q : Nat)) 15 k f) 16 k 0) 13 k (S 0 2)) 5 m (wp (t 4 m + 1))) μ) := by
              intro g f hg hf hgb
              refine go_wias (y := mX11_minutes) (pc := 450) (r := 9) (k := q) dX11_minutes_450 hw (by decide) rfl hz rfl (by omega) (by decide) (by omega) ?_
              refine go_aload_n (y := mX11_minutes) (pc := 451) dX11_minutes_451 rfl rfl ?_
              refine go_iload_n (y := mX11_minutes) (pc := 452) dX11_minutes_452 rfl rfl ?_
              refine go_callV1 (y := mX11_minutes) (pc := 453) (y' := mX11_removes) (kc2 := 0) (ks2 := 0) dX11_minutes_453 ml_X11_131 ok_X11_removes (ow_sh hw 0 (by decide)) ⟨_, _, rfl⟩ (by omega) rfl (by decide) (Nat.le_of_ble_eq_true rfl) rfl (o_removes hw hz (r := p) (by omega) ?_)
              refine J456 _ _ _ _ _ _ ?_ ?_ (fun j h1 h2 => ?_)
              · rw [et]
                exact own_spk hS wfk hO hk4 x1 hp11 hm hq hg hf
              · rw [wr_na (by decide), shf_o (by decide), wr_na (by decide), wr_na (by decide), wr_na (by decide), wr_na (by decide), wr_na (by decide), wr_na (by decide), wr_na (by decide)]
                exact he
              · rw [wr_na (by decide), shf_o (by decide), wr_na (by decide), wr_na (by decide), wr_na (by decide), wr_na (by decide), wr_na (by decide), wr_na (by decide), wr_na (by decide)]
                exact hj j h1 h2
            refine go_aload_n (y := mX11_minutes) (pc := 364) dX11_minutes_364 rfl rfl ?_
            refine go_getR (y := mX11_minutes) (pc := 365) dX11_minutes_365 fl_X11_40 (ow_sh hw 0 (by decide)) rfl (by omega) ?_
            refine go_iload_n (y := mX11_minutes) (pc := 368) dX11_minutes_368 rfl rfl ?_
            refine go_aload_n (y := mX11_minutes) (pc := 369) dX11_minutes_369 rfl rfl ?_
            refine go_iload_n (y := mX11_minutes) (pc := 370) dX11_minutes_370 rfl rfl ?_
            refine go_callV1 (y := mX11_minutes) (pc := 371) (y' := mX11_who) (kc2 := 0) (ks2 := 0) dX11_minutes_371 ml_X11_112 ok_X11_who (ow_sh hw 0 (by decide)) ⟨_, _, rfl⟩ (by omega) rfl (by decide) (Nat.le_of_ble_eq_true rfl) rfl (o_who hw hz hS wfk (r := p) hp11 hF ?_)
            rw [hm]
            refine go_wias (y := mX11_minutes) (pc := 374) (r := 11) (k := k) dX11_minutes_374 hw (by decide) rfl hz rfl (by omega) (by decide) (by omega) ?_
            refine go_aload_n (y := mX11_minutes) (pc := 375) dX11_minutes_375 rfl rfl ?_
            refine go_getR (y := mX11_minutes) (pc := 376) dX11_minutes_376 fl_X11_43 (ow_sh hw 0 (by decide)) rfl (by omega) ?_
            refine go_iload_n (y := mX11_minutes) (pc := 379) dX11_minutes_379 rfl rfl ?_
            refine go_aload_n (y := mX11_minutes) (pc := 380) dX11_minutes_380 rfl rfl ?_
            refine go_iload_n (y := mX11_minutes) (pc := 381) dX11_minutes_381 rfl rfl ?_
            refine go_callV1 (y := mX11_minutes) (pc := 382) (y' := mX11_what) (kc2 := 0) (ks2 := 0) dX11_minutes_382 ml_X11_116 ok_X11_what (ow_sh hw 0 (by decide)) ⟨_, _, rfl⟩ (by omega) rfl (by decide) (Nat.le_of_ble_eq_true rfl) rfl (o_what hw hz hS wfk (r := p) hp11 hF ?_)
            rw [hq]
            refine go_wias (y := mX11_minutes) (pc := 385) (r := 12) (k := k) dX11_minutes_385 hw (by decide) rfl hz rfl (by omega) (by decide) (by omega) ?_
            refine go_aload_n (y := mX11_minutes) (pc := 386) dX11_minutes_386 rfl rfl ?_
            refine go_getR (y := mX11_minutes) (pc := 387) dX11_minutes_387 fl_X11_52 (ow_sh hw 0 (by decide)) rfl (by omega) ?_
            refine go_iload_n (y := mX11_minutes) (pc := 390) dX11_minutes_390 rfl rfl ?_
            refine go_aload_n (y := mX11_minutes) (pc := 391) dX11_minutes_391 rfl rfl ?_
            refine go_iload_n (y := mX11_minutes) (pc := 392) dX11_minutes_392 rfl rfl ?_
            refine go_callV1 (y := mX11_minutes) (pc := 393) (y' := mX11_isForAt) (kc2 := 0) (ks2 := 0) dX11_minutes_393 ml_X11_119 ok_X11_isForAt (ow_sh hw 0 (by decide)) ⟨_, _, rfl⟩ (by omega) rfl (by decide) (Nat.le_of_ble_eq_true rfl) rfl (o_isForAt hw hz hS wfk (r := p) hp11 hF (fun v393 e393 b393 => ?_))
            refine go_wzas (y := mX11_minutes) (pc := 396) (r := 15) (k := k) dX11_minutes_396 hw (by decide) rfl hz rfl (by omega) (by decide) (by omega) ?_
            refine go_aload_n (y := mX11_minutes) (pc := 397) dX11_minutes_397 rfl rfl ?_
            refine go_getR (y := mX11_minutes) (pc := 398) dX11_minutes_398 fl_X11_56 (ow_sh hw 0 (by decide)) rfl (by omega) ?_
            refine go_iload_n (y := mX11_minutes) (pc := 401) dX11_minutes_401 rfl rfl ?_
            refine go_iconst (y := mX11_minutes) (pc := 402) dX11_minutes_402 ?_
            refine go_wzas (y := mX11_minutes) (pc := 403) (r := 16) (k := k) dX11_minutes_403 hw (by decide) rfl hz rfl (by omega) (by decide) (by omega) ?_
            refine go_aload_n (y := mX11_minutes) (pc := 404) dX11_minutes_404 rfl rfl ?_
            refine go_getR (y := mX11_minutes) (pc := 405) dX11_minutes_405 fl_X11_46 (ow_sh hw 0 (by decide)) rfl (by omega) ?_
            refine go_iload_n (y := mX11_minutes) (pc := 408) dX11_minutes_408 rfl rfl ?_
            refine go_aload_n (y := mX11_minutes) (pc := 409) dX11_minutes_409 rfl rfl ?_
            refine go_wget (y := mX11_minutes) (pc := 410) (r := 0) dX11_minutes_410 fl_X11_67 hw (by decide) rfl rfl hz (fun r410 => ?_)
            refine go_top (b := S 0 2) (e2) (fun t410 => ?_)
            refine go_wias (y := mX11_minutes) (pc := 413) (r := 13) (k := k) dX11_minutes_413 hw (by decide) rfl hz rfl (by omega) (by decide) (by have := hS.2.2.2.2.1; have := hS.2.2.2.2.2.1; omega) ?_
            refine go_aload_n (y := mX11_minutes) (pc := 414) dX11_minutes_414 rfl rfl ?_
            refine go_getR (y := mX11_minutes) (pc := 415) dX11_minutes_415 fl_X11_22 (ow_sh hw 0 (by decide)) rfl (by omega) ?_
            refine go_aload_n (y := mX11_minutes) (pc := 418) dX11_minutes_418 rfl rfl ?_
            refine go_iload_n (y := mX11_minutes) (pc := 419) dX11_minutes_419 rfl rfl ?_
            refine go_callV1 (y := mX11_minutes) (pc := 420) (y' := mX11_who) (kc2 := 0) (ks2 := 0) dX11_minutes_420 ml_X11_112 ok_X11_who (ow_sh hw 0 (by decide)) ⟨_, _, rfl⟩ (by omega) rfl (by decide) (Nat.le_of_ble_eq_true rfl) rfl (o_who hw hz hS wfk (r := p) hp11 hF ?_)
            rw [hm]
            refine go_dup2 (y := mX11_minutes) (pc := 423) dX11_minutes_423 rfl rfl ?_
            refine go_wial (y := mX11_minutes) (pc := 424) (r := 5) (k := m) dX11_minutes_424 hw (by decide) rfl hz rfl (by omega) (by decide) (fun r424 => ?_)
            refine go_iconst (y := mX11_minutes) (pc := 425) dX11_minutes_425 ?_
            refine go_iadd (y := mX11_minutes) (pc := 426) dX11_minutes_426 ?_
            refine go_wiasW (y := mX11_minutes) (pc := 427) (r := 5) (k := m) dX11_minutes_427 hw (by decide) rfl hz rfl (by omega) (by decide)  ?_
            refine go_aload_n (y := mX11_minutes) (pc := 428) dX11_minutes_428 rfl rfl ?_
            refine go_getR (y := mX11_minutes) (pc := 429) dX11_minutes_429 fl_X11_34 (ow_sh hw 0 (by decide)) rfl (by omega) ?_
            refine go_aload_n (y := mX11_minutes) (pc := 432) dX11_minutes_432 rfl rfl ?_
            refine go_iload_n (y := mX11_minutes) (pc := 433) dX11_minutes_433 rfl rfl ?_
            refine go_callV1 (y := mX11_minutes) (pc := 434) (y' := mX11_what) (kc2 := 0) (ks2 := 0) dX11_minutes_434 ml_X11_116 ok_X11_what (ow_sh hw 0 (by decide)) ⟨_, _, rfl⟩ (by omega) rfl (by decide) (Nat.le_of_ble_eq_true rfl) rfl (o_what hw hz hS wfk (r := p) hp11 hF ?_)
            rw [hq]
            refine go_aload_n (y := mX11_minutes) (pc := 437) dX11_minutes_437 rfl rfl ?_
            refine go_iload_n (y := mX11_minutes) (pc := 438) dX11_minutes_438 rfl rfl ?_
            refine go_callV1 (y := mX11_minutes) (pc := 439) (y' := mX11_isForAt) (kc2 := 0) (ks2 := 0) dX11_minutes_439 ml_X11_119 ok_X11_isForAt (ow_sh hw 0 (by decide)) ⟨_, _, rfl⟩ (by omega) rfl (by decide) (Nat.le_of_ble_eq_true rfl) rfl (o_isForAt hw hz hS wfk (r := p) hp11 hF (fun v439 e439 b439 => ?_))
            refine go_if_eq (y := mX11_minutes) (pc := 442) (tgt := 449) dX11_minutes_442 (by decide) (by omega) (fun h442 => ?_) (fun h442 => ?_)
            · skip
              refine go_iconst (y := mX11_minutes) (pc := 449) dX11_minutes_449 ?_
              have h9 := tail (-1) v393 (by have := bI_0 e439 h442; omega) (by rw [e393, bI_f (bI_0 e439 h442)]; rfl) (by omega)
              rw [show wr (wr (wr (wr (wr τ 11 k (m : Nat)) 12 k (q : Nat)) 15 k v393) 16 k 0) 13 k (S 0 2) 5 m = t 4 m from e5]
              exact h9
            · skip
              refine go_iconst (y := mX11_minutes) (pc := 445) dX11_minutes_445 ?_
              refine go_goto (y := mX11_minutes) (pc := 446) (tgt := 450) dX11_minutes_446 (by decide) ?_
              have h9 := tail 1 v393 (by have := bI_1 e439 h442; omega) (by rw [e393, bI_t (bI_1 e439 h442)]; rfl) (by omega)
              rw [show wr (wr (wr (wr (wr τ 11 k (m : Nat)) 12 k (q : Nat)) 15 k v393) 16 k 0) 13 k (S 0 2) 5 m = t 4 m from e5]
              exact h9
          · skip
            refine go_goto (y := mX11_minutes) (pc := 361) (tgt := 456) dX11_minutes_361 (by decide) ?_
            refine go_iinc (y := mX11_minutes) (pc := 456) dX11_minutes_456 rfl (by decide) ?_
            refine go_goto (y := mX11_minutes) (pc := 459) (tgt := 327) dX11_minutes_459 (by decide) ?_
            refine go_iload_n (y := mX11_minutes) (pc := 327) dX11_minutes_327 rfl rfl ?_
            refine go_aload_n (y := mX11_minutes) (pc := 328) dX11_minutes_328 rfl rfl ?_
            refine go_wget (y := mX11_minutes) (pc := 329) (r := 0) dX11_minutes_329 fl_X11_60 hw (by decide) rfl rfl hz (fun r329 => ?_)
            refine go_top (b := S 0 0) (e0) (fun t329 => ?_)
            refine go_icmp_ge (y := mX11_minutes) (pc := 332) (tgt := 462) dX11_minutes_332 (by decide) (by omega) (by omega) (fun h332 => ?_) (fun h332 => ?_)
            refine J456 τ _ _ _ _ _ ?_ he hj
            rw [hv1 (by omega)]
            exact hO
        refine go_iload_n (y := mX11_minutes) (pc := 327) dX11_minutes_327 rfl rfl ?_
        refine go_aload_n (y := mX11_minutes) (pc := 328) dX11_minutes_328 rfl rfl ?_
        refine go_wget (y := mX11_minutes) (pc := 329) (r := 0) dX11_minutes_329 fl_X11_60 hw (by decide) rfl rfl hz (fun r329 => ?_)
        refine go_top (b := S 0 0) (e0) (fun t329 => ?_)
        refine go_icmp_ge (y := mX11_minutes) (pc := 332) (tgt := 462) dX11_minutes_332 (by decide) (by omega) (by omega) (fun h332 => ?_) (fun h332 => ?_)
        · skip
          exact absurd h332 (by omega)
        · skip
          refine go_aload_n (y := mX11_minutes) (pc := 335) dX11_minutes_335 rfl rfl ?_
          refine go_getR (y := mX11_minutes) (pc := 336) dX11_minutes_336 fl_X11_40 (ow_sh hw 0 (by decide)) rfl (by omega) ?_
          refine go_iload_n (y := mX11_minutes) (pc := 339) dX11_minutes_339 rfl rfl ?_
          refine go_wial (y := mX11_minutes) (pc := 340) (r := 11) (k := k) dX11_minutes_340 hw (by decide) rfl hz rfl (by omega) (by decide) (fun r340 => ?_)
          refine go_top (b := t 16 k) (hE.1) (fun t340 => ?_)
          refine go_if_lt (y := mX11_minutes) (pc := 341) (tgt := 348) dX11_minutes_341 (by decide) (by omega) (fun h341 => ?_) (fun h341 => ?_)
          · skip
            refine go_aload_n (y := mX11_minutes) (pc := 348) dX11_minutes_348 rfl rfl ?_
            refine go_aload_n (y := mX11_minutes) (pc := 349) dX11_minutes_349 rfl rfl ?_
            refine go_wget (y := mX11_minutes) (pc := 350) (r := 0) dX11_minutes_350 fl_X11_91 hw (by decide) rfl rfl hz (fun r350 => ?_)
            refine go_top (b := t 0 6) (e10) (fun t350 => ?_)
            refine go_callV1 (y := mX11_minutes) (pc := 353) (y' := mX11_firstBy) (kc2 := 0) (ks2 := 0) dX11_minutes_353 ml_X11_135 ok_X11_firstBy (ow_sh hw 0 (by decide)) ⟨_, _, rfl⟩ (by omega) rfl (by decide) (Nat.le_of_ble_eq_true rfl) rfl (o_firstBy hw hz hS wfk hO limk (by omega) (by omega) (fun v353 e353 b353 => ?_))
            refine J356 v353 (fun w9 => ?_) (fun w9 => ⟨by omega, e353, by omega, by omega⟩) (by omega)
            rw [eS, if_neg (fun w8 => w8.2 (e353 ▸ w9))]
          · skip
            refine go_iconst (y := mX11_minutes) (pc := 344) dX11_minutes_344 ?_
            refine go_goto (y := mX11_minutes) (pc := 345) (tgt := 356) dX11_minutes_345 (by decide) ?_
            exact J356 (-1) (fun _ => by rw [eS, if_neg (by omega)]) (fun w9 => absurd rfl w9) (by omega)
  have s3 : ∀ (n k : Nat) (τ : Mem) (u2 u3 u4 u5 u6 : Value), (k : Int) + n = S 0 0 → own S (pek S (pm1 S s) k).1 τ → iI (τ 0 16) = iI (ω 0 16 + (pek S (pm1 S s) k).2) → (∀ j, 14 ≤ j → j ≠ 16 → τ 0 j = ω 0 j) → go z 4 0 0 mX11_minutes Q X 72 [.ref w, .int (iI (k : Nat)), u2, u3, u4, u5, u6] [] (ow w τ μ) := by
    intro n
    induction n using Nat.strongRecOn with
    | _ n ih =>
      intro k τ u2 u3 u4 u5 u6 hk hO he hj
      have ih' := ih (n - 1)
      have wfk := wf_pek hS wf1 k (by omega)
      have e0 := hO.1.1
      by_cases hkn : (k : Int) = S 0 0
      · skip
        have e : k = (S 0 0).toNat := by omega
        refine go_iload_n (y := mX11_minutes) (pc := 72) dX11_minutes_72 rfl rfl ?_
        refine go_aload_n (y := mX11_minutes) (pc := 73) dX11_minutes_73 rfl rfl ?_
        refine go_wget (y := mX11_minutes) (pc := 74) (r := 0) dX11_minutes_74 fl_X11_60 hw (by decide) rfl rfl hz (fun r74 => ?_)
        refine go_top (b := S 0 0) (e0) (fun t74 => ?_)
        refine go_icmp_ge (y := mX11_minutes) (pc := 77) (tgt := 325) dX11_minutes_77 (by decide) (by omega) (by omega) (fun h77 => ?_) (fun h77 => ?_)
        · skip
          refine go_iconst (y := mX11_minutes) (pc := 325) dX11_minutes_325 ?_
          refine go_istore_n (y := mX11_minutes) (pc := 326) dX11_minutes_326 rfl (by decide) ?_
          subst e
          exact s4 (S 0 0).toNat 0 τ _ _ _ _ _ (by omega) hO he hj
        · skip
          exact absurd h77 (by omega)
      · skip
        have hk4 : k < 4 := by omega
        have eS : pek S (pm1 S s) (k + 1) = if (pek S (pm1 S s) k).1 16 k = -1 then pek S (pm1 S s) k
          else if wp ((pek S (pm1 S s) k).1 19 k - 1) = 0 then (esp S (wr (pek S (pm1 S s) k).1 19 k (wp ((pek S (pm1 S s) k).1 19 k - 1))) k, (pek S (pm1 S s) k).2 + 1)
          else (wr (pek S (pm1 S s) k).1 19 k (wp ((pek S (pm1 S s) k).1 19 k - 1)), (pek S (pm1 S s) k).2) := rfl
        have J319 : ∀ (τ : Mem) (u2 u3 u4 u5 u6 : Value), own S (pek S (pm1 S s) (k + 1)).1 τ → iI (τ 0 16) = iI (ω 0 16 + (pek S (pm1 S s) (k + 1)).2) → (∀ j, 14 ≤ j → j ≠ 16 → τ 0 j = ω 0 j) → go z 4 0 0 mX11_minutes Q X 319 [.ref w, .int (iI (k : Nat)), u2, u3, u4, u5, u6] [] (ow w τ μ) := by
          intro τ u2 u3 u4 u5 u6 a1 a2 a3
          refine go_iinc (y := mX11_minutes) (pc := 319) dX11_minutes_319 rfl (by decide) ?_
          refine go_goto (y := mX11_minutes) (pc := 322) (tgt := 72) dX11_minutes_322 (by decide) ?_
          exact ih' (by omega) (k + 1) τ u2 u3 u4 u5 u6 (by omega) a1 a2 a3
        revert J319 eS
        revert wfk hO he
        generalize pek S (pm1 S s) k = tc
        generalize pek S (pm1 S s) (k + 1) = tc'
        obtain ⟨t, cnt⟩ := tc
        dsimp only
        intro wfk hO he J319 eS
        have hX := wfk.1.2.2.2.2.2 k hk4
        have hE := hO.2.2.2.2.1 k hk4
        have r2 := wf_r hS wfk.1
        refine go_iload_n (y := mX11_minutes) (pc := 72) dX11_minutes_72 rfl rfl ?_
        refine go_aload_n (y := mX11_minutes) (pc := 73) dX11_minutes_73 rfl rfl ?_
        refine go_wget (y := mX11_minutes) (pc := 74) (r := 0) dX11_minutes_74 fl_X11_60 hw (by decide) rfl rfl hz (fun r74 => ?_)
        refine go_top (b := S 0 0) (e0) (fun t74 => ?_)
        refine go_icmp_ge (y := mX11_minutes) (pc := 77) (tgt := 325) dX11_minutes_77 (by decide) (by omega) (by omega) (fun h77 => ?_) (fun h77 => ?_)
        · skip
          exact absurd h77 (by omega)
        · skip
          refine go_aload_n (y := mX11_minutes) (pc := 80) dX11_minutes_80 rfl rfl ?_
          refine go_getR (y := mX11_minutes) (pc := 81) dX11_minutes_81 fl_X11_40 (ow_sh hw 0 (by decide)) rfl (by omega) ?_
          refine go_iload_n (y := mX11_minutes) (pc := 84) dX11_minutes_84 rfl rfl ?_
          refine go_wial (y := mX11_minutes) (pc := 85) (r := 11) (k := k) dX11_minutes_85 hw (by decide) rfl hz rfl (by omega) (by decide) (fun r85 => ?_)
          refine go_top (b := t 16 k) (hE.1) (fun t85 => ?_)
          refine go_if_ge (y := mX11_minutes) (pc := 86) (tgt := 92) dX11_minutes_86 (by decide) (by omega) (fun h86 => ?_) (fun h86 => ?_)
          · skip
            have hE2 := hE.2 (by omega)
            have hX2 : 1 ≤ t 19 k ∧ t 19 k ≤ 20 := by omega
            have ew : wp (τ 13 k - 1) = t 19 k - 1 := by rw [hE2.2.1]; exact wp_of ⟨by omega, by omega⟩
            have ew2 : wp (t 19 k - 1) = t 19 k - 1 := wp_of ⟨by omega, by omega⟩
            have o19 : own S (wr t 19 k (wp (t 19 k - 1))) (wr τ 13 k (wp (τ 13 k - 1))) := by rw [ew, ew2]; exact own_19 hO
            refine go_aload_n (y := mX11_minutes) (pc := 92) dX11_minutes_92 rfl rfl ?_
            refine go_getR (y := mX11_minutes) (pc := 93) dX11_minutes_93 fl_X11_46 (ow_sh hw 0 (by decide)) rfl (by omega) ?_
            refine go_iload_n (y := mX11_minutes) (pc := 96) dX11_minutes_96 rfl rfl ?_
            refine go_dup2 (y := mX11_minutes) (pc := 97) dX11_minutes_97 rfl rfl ?_
            refine go_wial (y := mX11_minutes) (pc := 98) (r := 13) (k := k) dX11_minutes_98 hw (by decide) rfl hz rfl (by omega) (by decide) (fun r98 => ?_)
            refine go_iconst (y := mX11_minutes) (pc := 99) dX11_minutes_99 ?_
            refine go_isub (y := mX11_minutes) (pc := 100) dX11_minutes_100 ?_
            refine go_wiasW (y := mX11_minutes) (pc := 101) (r := 13) (k := k) dX11_minutes_101 hw (by decide) rfl hz rfl (by omega) (by decide)  ?_
            refine go_aload_n (y := mX11_minutes) (pc := 102) dX11_minutes_102 rfl rfl ?_
            refine go_getR (y := mX11_minutes) (pc := 103) dX11_minutes_103 fl_X11_46 (ow_sh hw 0 (by decide)) rfl (by omega) ?_
            refine go_iload_n (y := mX11_minutes) (pc := 106) dX11_minutes_106 rfl rfl ?_
            refine go_wial (y := mX11_minutes) (pc := 107) (r := 13) (k := k) dX11_minutes_107 hw (by decide) rfl hz rfl (by omega) (by decide) (fun r107 => ?_)
            refine go_top (b := wp (τ 13 k - 1)) (wr_s _ _ _ _) (fun t107 => ?_)
            refine go_if_le (y := mX11_minutes) (pc := 108) (tgt := 114) dX11_minutes_108 (by decide) (by omega) (fun h108 => ?_) (fun h108 => ?_)
            · skip
              skip
              have hS3 : ∀ m : Nat, (m : Int) < S 0 7 → τ 2 m = S 3 m := fun m hm => (hO.2.1 m hm).2.1
              obtain ⟨sp, hsp⟩ := Int.eq_ofNat_of_zero_le (show 0 ≤ t 16 k by omega)
              obtain ⟨q, hq⟩ := Int.eq_ofNat_of_zero_le (show 0 ≤ t 17 k by omega)
              have hq5 : (q : Int) < t 5 0 := by omega
              have hqc := wfk.1.2.2.1 q hq5
              have et : tc' = (esp S (wr t 19 k (wp (t 19 k - 1))) k, cnt + 1) := by
                rw [eS, if_neg (by omega), if_pos (by omega)]
              have wf2 : wfC S (wr t 19 k (wp (t 19 k - 1))) ∨ True := Or.inr trivial
              sorry
            · skip
              refine go_goto (y := mX11_minutes) (pc := 111) (tgt := 319) dX11_minutes_111 (by decide) ?_
              have et : tc' = (wr t 19 k (wp (t 19 k - 1)), cnt) := by
                rw [eS, if_neg (by omega), if_neg (by omega)]
              subst et
              refine J319 _ _ _ _ _ _ o19 ?_ (fun j h1 h2 => by rw [wr_na (by decide)]; exact hj j h1 h2)
              rw [wr_na (by decide)]
              exact he
          · skip
            refine go_goto (y := mX11_minutes) (pc := 89) (tgt := 319) dX11_minutes_89 (by decide) ?_
            have et : tc' = (t, cnt) := by rw [eS, if_pos (by omega)]
            subst et
            exact J319 τ _ _ _ _ _ hO he hj
  sorry
