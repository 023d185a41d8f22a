/-! THE MODEL: rankings, removals -/
theorem lat_c {a d : Int} (ha : -1 ≤ a ∧ a ≤ 1) (hd : d = 1 ∨ d = -1) : (lat a ≠ -1 ∧ lat a ≠ sdm d) ↔ a = -d := by
  unfold lat sdm
  rcases hd with e | e <;> subst e <;> (repeat' split) <;> omega
theorem lat_s {d : Int} (hd : d = 1 ∨ d = -1) : lat d = sdm d := by
  unfold lat sdm
  rcases hd with e | e <;> subst e <;> (repeat' split) <;> omega
theorem sdm_1 {d : Int} : sdm d = 1 ↔ d = 1 := by unfold sdm; split <;> omega
theorem sdm_b (d : Int) : sdm d = 0 ∨ sdm d = 1 := by unfold sdm; split <;> omega
theorem fsk_i (S s : Mem) (rk : Int) : ∀ k : Nat, ∃ b : Nat, b < k + 1 ∧ fsk S s rk (k + 1) = ((b : Int), rnk S s b rk)
  | 0 => ⟨0, by omega, by rw [fsk, fsk, if_pos (Or.inl rfl)]⟩
  | k + 1 => by
    obtain ⟨b, h1, h2⟩ := fsk_i S s rk k
    rw [fsk]
    split
    · exact ⟨k + 1, by omega, rfl⟩
    · exact ⟨b, by omega, h2⟩
def dpi (ν : Nat → Int) (r i : Nat) : Nat → Int := fun j => if 382 + 3 * r ≤ j ∧ j < 382 + 3 * r + i then wv ν 11 (ν 11 - 1) (j + 3) else wv ν 11 (ν 11 - 1) j
def dpv (ν : Nat → Int) (r : Nat) : Nat → Int := dpi ν r (3 * ((ν 11 - 1).toNat - r))
theorem dpi_0 (ν : Nat → Int) (r : Nat) : dpi ν r 0 = wv ν 11 (ν 11 - 1) := by
  funext j
  unfold dpi
  rw [if_neg (by omega)]
theorem dpi_s (ν : Nat → Int) (r i : Nat) : wv (dpi ν r i) (382 + 3 * r + i) (dpi ν r i (382 + 3 * r + i + 3)) = dpi ν r (i + 1) := by
  have e : dpi ν r i (382 + 3 * r + i + 3) = wv ν 11 (ν 11 - 1) (382 + 3 * r + i + 3) := by unfold dpi; rw [if_neg (by omega)]
  rw [e]
  funext j
  unfold dpi
  by_cases h : j = 382 + 3 * r + i
  · subst h
    rw [wv_s, if_pos (by omega)]
  · rw [wv_n h]
    by_cases g : 382 + 3 * r ≤ j ∧ j < 382 + 3 * r + i
    · rw [if_pos g, if_pos (by omega)]
    · rw [if_neg g, if_neg (by omega)]
theorem dpv_lo {ν : Nat → Int} {r j : Nat} (h : j < 382) : dpv ν r j = if j = 11 then ν 11 - 1 else ν j := by
  unfold dpv dpi
  rw [if_neg (by omega)]
  rfl
theorem dpv_hi {ν : Nat → Int} {r j w : Nat} (hw : w < 3) (hj : (j : Int) < ν 11 - 1) : dpv ν r (382 + 3 * j + w) = if r ≤ j then ν (382 + 3 * (j + 1) + w) else ν (382 + 3 * j + w) := by
  unfold dpv dpi
  by_cases g : r ≤ j
  · rw [if_pos (by omega), if_pos g, wv_n (by omega), show 382 + 3 * (j + 1) + w = 382 + 3 * j + w + 3 by omega]
  · rw [if_neg (by omega), if_neg g, wv_n (by omega)]
def dra (q : Int) : Nat → (Nat → Int) → Nat → Int
  | 0, ν => ν
  | k + 1, ν => dra q k (if ν (382 + 3 * k + 1) = q then dpv ν k else ν)
def drc (q : Int) : Nat → (Nat → Int) → Nat
  | 0, _ => 0
  | k + 1, ν => (if ν (382 + 3 * k + 1) = q then 1 else 0) + drc q k (if ν (382 + 3 * k + 1) = q then dpv ν k else ν)
section MReads2
variable {S s σ μ : Mem} {ν : Nat → Int}
set_option maxRecDepth 8000 in
set_option maxHeartbeats 4000000 in
theorem m_isContrast {r : Nat} (h : (r : Int) < s 11 0) (hr : rel S s ν) (hS : wfS S) (hC : wfC S s) {Q : Option Value → Mem → Prop} {X : String → Mem → Prop} (K : ∀ x, x = bI (s 9 (s 13 r).toNat = -(s 14 r)) → x = 0 ∨ x = 1 → Q (some (.int (iI x))) (md σ ν μ)) : mt 289 1 0 0 mX11_isContrast [.ref 276, .int (iI (r : Nat))] Q X (md σ ν μ) := by
  show go 289 1 0 0 mX11_isContrast Q X 0 [.ref 276, .int (iI (r : Nat))] [] _
  have hd := hC.2.2.2.1 r h
  have hr12 : r < 12 := by have := hC.1.2.2.2.1; have := hS.2.2.2.2.2.2.2.2.2.2.2.2.2.2.2.1; omega
  have q16 := hC.1.2.1
  obtain ⟨q, hq⟩ := Int.eq_ofNat_of_zero_le hd.2.2.1
  have hc := hC.2.2.1 q (by omega)
  have eq : (s 13 r).toNat = q := by omega
  rw [eq] at K
  have hl := lat_c (a := s 9 q) (d := s 14 r) (by omega) hd.2.2.2.2
  have J39 : ¬ (s 9 q = -(s 14 r)) → go 289 1 0 0 mX11_isContrast Q X 39 [.ref 276, .int (iI (r : Nat))] [] (md σ ν μ) := by
    intro g
    refine go_iconst (y := mX11_isContrast) (pc := 39) dX11_isContrast_39 ?_
    refine go_zreturn (y := mX11_isContrast) (pc := 40) dX11_isContrast_40 rfl (by omega) ?_
    exact K _ (bI_f g).symm (by omega)
  refine go_aload_n (y := mX11_isContrast) (pc := 0) dX11_isContrast_0 rfl rfl ?_
  refine go_aload_n (y := mX11_isContrast) (pc := 1) dX11_isContrast_1 rfl rfl ?_
  refine go_iload_n (y := mX11_isContrast) (pc := 2) dX11_isContrast_2 rfl rfl ?_
  refine go_iconst (y := mX11_isContrast) (pc := 3) dX11_isContrast_3 ?_
  refine go_callV2 (y := mX11_isContrast) (pc := 4) (y' := mX11_ofR) (kc2 := 0) (ks2 := 0) dX11_isContrast_4 ml_X11_97 ok_X11_ofR (show shp 276 = _ from rfl) ⟨_, _, rfl⟩ (by decide) ⟨rfl, rfl⟩ (by decide) (Nat.le_of_ble_eq_true rfl) rfl (m_ofR (r := r) (w := 1) (by omega) (by decide) (fun v4 e4 r4 => ?_))
  refine go_top (b := ((q : Nat) : Int)) ((e4.trans (rrA hr h)).trans hq) (fun t4 => ?_)
  refine go_iconst (y := mX11_isContrast) (pc := 7) dX11_isContrast_7 ?_
  refine go_callV2 (y := mX11_isContrast) (pc := 8) (y' := mX11_ofM) (kc2 := 0) (ks2 := 0) dX11_isContrast_8 ml_X11_90 ok_X11_ofM (show shp 276 = _ from rfl) ⟨_, _, rfl⟩ (by decide) ⟨rfl, rfl⟩ (by decide) (Nat.le_of_ble_eq_true rfl) rfl (m_ofM (q := q) (w := 4) (by omega) (by decide) (fun v8 e8 r8 => ?_))
  refine go_top (b := lat (s 9 q)) (e8.trans (rqT hr (by omega))) (fun t8 => ?_)
  refine go_iconst (y := mX11_isContrast) (pc := 11) dX11_isContrast_11 ?_
  refine go_icmp_eq (y := mX11_isContrast) (pc := 12) (tgt := 39) dX11_isContrast_12 (by decide) (by omega) (by omega) (fun h12 => ?_) (fun h12 => ?_)
  · skip
    exact J39 (fun w => (hl.mpr w).1 h12)
  · skip
    refine go_aload_n (y := mX11_isContrast) (pc := 15) dX11_isContrast_15 rfl rfl ?_
    refine go_aload_n (y := mX11_isContrast) (pc := 16) dX11_isContrast_16 rfl rfl ?_
    refine go_iload_n (y := mX11_isContrast) (pc := 17) dX11_isContrast_17 rfl rfl ?_
    refine go_iconst (y := mX11_isContrast) (pc := 18) dX11_isContrast_18 ?_
    refine go_callV2 (y := mX11_isContrast) (pc := 19) (y' := mX11_ofR) (kc2 := 0) (ks2 := 0) dX11_isContrast_19 ml_X11_97 ok_X11_ofR (show shp 276 = _ from rfl) ⟨_, _, rfl⟩ (by decide) ⟨rfl, rfl⟩ (by decide) (Nat.le_of_ble_eq_true rfl) rfl (m_ofR (r := r) (w := 1) (by omega) (by decide) (fun v19 e19 r19 => ?_))
    refine go_top (b := ((q : Nat) : Int)) ((e19.trans (rrA hr h)).trans hq) (fun t19 => ?_)
    refine go_iconst (y := mX11_isContrast) (pc := 22) dX11_isContrast_22 ?_
    refine go_callV2 (y := mX11_isContrast) (pc := 23) (y' := mX11_ofM) (kc2 := 0) (ks2 := 0) dX11_isContrast_23 ml_X11_90 ok_X11_ofM (show shp 276 = _ from rfl) ⟨_, _, rfl⟩ (by decide) ⟨rfl, rfl⟩ (by decide) (Nat.le_of_ble_eq_true rfl) rfl (m_ofM (q := q) (w := 4) (by omega) (by decide) (fun v23 e23 r23 => ?_))
    refine go_top (b := lat (s 9 q)) (e23.trans (rqT hr (by omega))) (fun t23 => ?_)
    refine go_aload_n (y := mX11_isContrast) (pc := 26) dX11_isContrast_26 rfl rfl ?_
    refine go_iload_n (y := mX11_isContrast) (pc := 27) dX11_isContrast_27 rfl rfl ?_
    refine go_iconst (y := mX11_isContrast) (pc := 28) dX11_isContrast_28 ?_
    refine go_callV2 (y := mX11_isContrast) (pc := 29) (y' := mX11_ofR) (kc2 := 0) (ks2 := 0) dX11_isContrast_29 ml_X11_97 ok_X11_ofR (show shp 276 = _ from rfl) ⟨_, _, rfl⟩ (by decide) ⟨rfl, rfl⟩ (by decide) (Nat.le_of_ble_eq_true rfl) rfl (m_ofR (r := r) (w := 2) (by omega) (by decide) (fun v29 e29 r29 => ?_))
    refine go_top (b := sdm (s 14 r)) (e29.trans (rrS hr h)) (fun t29 => ?_)
    refine go_icmp_eq (y := mX11_isContrast) (pc := 32) (tgt := 39) dX11_isContrast_32 (by decide) (by omega) (by omega) (fun h32 => ?_) (fun h32 => ?_)
    · skip
      exact J39 (fun w => (hl.mpr w).2 h32)
    · skip
      refine go_iconst (y := mX11_isContrast) (pc := 35) dX11_isContrast_35 ?_
      refine go_goto (y := mX11_isContrast) (pc := 36) (tgt := 40) dX11_isContrast_36 (by decide) ?_
      refine go_zreturn (y := mX11_isContrast) (pc := 40) dX11_isContrast_40 rfl (by omega) ?_
      exact K _ (bI_t (hl.mp ⟨h12, h32⟩)).symm (by omega)
set_option maxRecDepth 8000 in
set_option maxHeartbeats 4000000 in
theorem m_isAhead {r k : Nat} {rk : Int} (hrk : rng rk) (h : (r : Int) < s 11 0) (h2 : (k : Int) < s 11 0) (hr : rel S s ν) (hS : wfS S) (hC : wfC S s) {Q : Option Value → Mem → Prop} {X : String → Mem → Prop} (K : ∀ x, x = bI (rnk S s r rk < rnk S s k rk) → x = 0 ∨ x = 1 → Q (some (.int (iI x))) (md σ ν μ)) : mt 289 2 0 0 mX11_isAhead [.ref 276, .int (iI (r : Nat)), .int (iI (k : Nat)), .int (iI rk)] Q X (md σ ν μ) := by
  show go 289 2 0 0 mX11_isAhead Q X 0 [.ref 276, .int (iI (r : Nat)), .int (iI (k : Nat)), .int (iI rk), .null, .null] [] _
  have n2 := hS.2.2.2.2.2.2.2.2.2.2.2.2.2.2.2.1
  have hr12 : r < 12 := by have := hC.1.2.2.2.1; omega
  have hk12 : k < 12 := by have := hC.1.2.2.2.1; omega
  have hd := hC.2.2.2.1 r h
  have hd2 := hC.2.2.2.1 k h2
  obtain ⟨m, hm⟩ := Int.eq_ofNat_of_zero_le hd.1
  obtain ⟨o, ho⟩ := Int.eq_ofNat_of_zero_le hd2.1
  have em : (s 12 r).toNat = m := by omega
  have eo : (s 12 k).toNat = o := by omega
  have hmw := hS.2.2.2.2.2.2.2.2.2.2.2.2.2.2.2.2 m (by omega)
  have how := hS.2.2.2.2.2.2.2.2.2.2.2.2.2.2.2.2 o (by omega)
  unfold rnk at K
  rw [em, eo] at K
  refine go_aload_n (y := mX11_isAhead) (pc := 0) dX11_isAhead_0 rfl rfl ?_
  refine go_iload_n (y := mX11_isAhead) (pc := 1) dX11_isAhead_1 rfl rfl ?_
  refine go_iconst (y := mX11_isAhead) (pc := 2) dX11_isAhead_2 ?_
  refine go_callV2 (y := mX11_isAhead) (pc := 3) (y' := mX11_ofR) (kc2 := 0) (ks2 := 0) dX11_isAhead_3 ml_X11_97 ok_X11_ofR (show shp 276 = _ from rfl) ⟨_, _, rfl⟩ (by decide) ⟨rfl, rfl⟩ (by decide) (Nat.le_of_ble_eq_true rfl) rfl (m_ofR (r := r) (w := 0) (by omega) (by decide) (fun v3 e3 r3 => ?_))
  refine go_top (b := ((m : Nat) : Int)) ((e3.trans (rrB hr h)).trans hm) (fun t3 => ?_)
  refine go_istore (y := mX11_isAhead) (pc := 6) dX11_isAhead_6 (by decide) ?_
  refine go_aload_n (y := mX11_isAhead) (pc := 8) dX11_isAhead_8 rfl rfl ?_
  refine go_iload_n (y := mX11_isAhead) (pc := 9) dX11_isAhead_9 rfl rfl ?_
  refine go_iconst (y := mX11_isAhead) (pc := 10) dX11_isAhead_10 ?_
  refine go_callV2 (y := mX11_isAhead) (pc := 11) (y' := mX11_ofR) (kc2 := 0) (ks2 := 0) dX11_isAhead_11 ml_X11_97 ok_X11_ofR (show shp 276 = _ from rfl) ⟨_, _, rfl⟩ (by decide) ⟨rfl, rfl⟩ (by decide) (Nat.le_of_ble_eq_true rfl) rfl (m_ofR (r := k) (w := 0) (by omega) (by decide) (fun v11 e11 r11 => ?_))
  refine go_top (b := ((o : Nat) : Int)) ((e11.trans (rrB hr h2)).trans ho) (fun t11 => ?_)
  refine go_istore (y := mX11_isAhead) (pc := 14) dX11_isAhead_14 (by decide) ?_
  refine go_iload_n (y := mX11_isAhead) (pc := 16) dX11_isAhead_16 rfl rfl ?_
  by_cases h1 : rk = 1
  · subst h1
    refine go_tbIn (y := mX11_isAhead) (pc := 17) (off := 27) (tgt := 44) dX11_isAhead_17 (by decide) (by decide) (by decide) rfl (by decide) ?_
    rw [if_pos rfl, if_pos rfl] at K
    refine go_aload_n (y := mX11_isAhead) (pc := 44) dX11_isAhead_44 rfl rfl ?_
    refine go_iload (y := mX11_isAhead) (pc := 45) dX11_isAhead_45 rfl ?_
    refine go_iconst (y := mX11_isAhead) (pc := 47) dX11_isAhead_47 ?_
    refine go_callV2 (y := mX11_isAhead) (pc := 48) (y' := mX11_of) (kc2 := 0) (ks2 := 0) dX11_isAhead_48 ml_X11_100 ok_X11_of (show shp 276 = _ from rfl) ⟨_, _, rfl⟩ (by decide) ⟨rfl, rfl⟩ (by decide) (Nat.le_of_ble_eq_true rfl) rfl (m_of (m := m) (w := 1) (by omega) (by decide) (fun v48 e48 r48 => ?_))
    refine go_top (b := S 2 m) (e48.trans (rlW hr (by omega))) (fun t48 => ?_)
    refine go_aload_n (y := mX11_isAhead) (pc := 51) dX11_isAhead_51 rfl rfl ?_
    refine go_iload (y := mX11_isAhead) (pc := 52) dX11_isAhead_52 rfl ?_
    refine go_iconst (y := mX11_isAhead) (pc := 54) dX11_isAhead_54 ?_
    refine go_callV2 (y := mX11_isAhead) (pc := 55) (y' := mX11_of) (kc2 := 0) (ks2 := 0) dX11_isAhead_55 ml_X11_100 ok_X11_of (show shp 276 = _ from rfl) ⟨_, _, rfl⟩ (by decide) ⟨rfl, rfl⟩ (by decide) (Nat.le_of_ble_eq_true rfl) rfl (m_of (m := o) (w := 1) (by omega) (by decide) (fun v55 e55 r55 => ?_))
    refine go_top (b := S 2 o) (e55.trans (rlW hr (by omega))) (fun t55 => ?_)
    refine go_icmp_le (y := mX11_isAhead) (pc := 58) (tgt := 65) dX11_isAhead_58 (by decide) (by omega) (by omega) (fun h58 => ?_) (fun h58 => ?_)
    · skip
      refine go_iconst (y := mX11_isAhead) (pc := 65) dX11_isAhead_65 ?_
      refine go_zreturn (y := mX11_isAhead) (pc := 66) dX11_isAhead_66 rfl (by omega) ?_
      exact K _ (bI_f (by omega)).symm (by omega)
    · skip
      refine go_iconst (y := mX11_isAhead) (pc := 61) dX11_isAhead_61 ?_
      refine go_goto (y := mX11_isAhead) (pc := 62) (tgt := 66) dX11_isAhead_62 (by decide) ?_
      refine go_zreturn (y := mX11_isAhead) (pc := 66) dX11_isAhead_66 rfl (by omega) ?_
      exact K _ (bI_t (by omega)).symm (by omega)
  · by_cases h2 : rk = 2
    · subst h2
      refine go_tbIn (y := mX11_isAhead) (pc := 17) (off := 50) (tgt := 67) dX11_isAhead_17 (by decide) (by decide) (by decide) rfl (by decide) ?_
      rw [if_neg (by decide), if_pos rfl, if_neg (by decide), if_pos rfl] at K
      refine go_aload_n (y := mX11_isAhead) (pc := 67) dX11_isAhead_67 rfl rfl ?_
      refine go_iload (y := mX11_isAhead) (pc := 68) dX11_isAhead_68 rfl ?_
      refine go_iconst (y := mX11_isAhead) (pc := 70) dX11_isAhead_70 ?_
      refine go_callV2 (y := mX11_isAhead) (pc := 71) (y' := mX11_of) (kc2 := 0) (ks2 := 0) dX11_isAhead_71 ml_X11_100 ok_X11_of (show shp 276 = _ from rfl) ⟨_, _, rfl⟩ (by decide) ⟨rfl, rfl⟩ (by decide) (Nat.le_of_ble_eq_true rfl) rfl (m_of (m := m) (w := 5) (by omega) (by decide) (fun v71 e71 r71 => ?_))
      refine go_top (b := s 4 m) (e71.trans (rlT hr (by omega))) (fun t71 => ?_)
      refine go_aload_n (y := mX11_isAhead) (pc := 74) dX11_isAhead_74 rfl rfl ?_
      refine go_iload (y := mX11_isAhead) (pc := 75) dX11_isAhead_75 rfl ?_
      refine go_iconst (y := mX11_isAhead) (pc := 77) dX11_isAhead_77 ?_
      refine go_callV2 (y := mX11_isAhead) (pc := 78) (y' := mX11_of) (kc2 := 0) (ks2 := 0) dX11_isAhead_78 ml_X11_100 ok_X11_of (show shp 276 = _ from rfl) ⟨_, _, rfl⟩ (by decide) ⟨rfl, rfl⟩ (by decide) (Nat.le_of_ble_eq_true rfl) rfl (m_of (m := o) (w := 5) (by omega) (by decide) (fun v78 e78 r78 => ?_))
      refine go_top (b := s 4 o) (e78.trans (rlT hr (by omega))) (fun t78 => ?_)
      refine go_icmp_ge (y := mX11_isAhead) (pc := 81) (tgt := 88) dX11_isAhead_81 (by decide) (by omega) (by omega) (fun h81 => ?_) (fun h81 => ?_)
      · skip
        refine go_iconst (y := mX11_isAhead) (pc := 88) dX11_isAhead_88 ?_
        refine go_zreturn (y := mX11_isAhead) (pc := 89) dX11_isAhead_89 rfl (by omega) ?_
        exact K _ (bI_f (by omega)).symm (by omega)
      · skip
        refine go_iconst (y := mX11_isAhead) (pc := 84) dX11_isAhead_84 ?_
        refine go_goto (y := mX11_isAhead) (pc := 85) (tgt := 89) dX11_isAhead_85 (by decide) ?_
        refine go_zreturn (y := mX11_isAhead) (pc := 89) dX11_isAhead_89 rfl (by omega) ?_
        exact K _ (bI_t (by omega)).symm (by omega)
    · by_cases h3 : rk = 3
      · subst h3
        refine go_tbIn (y := mX11_isAhead) (pc := 17) (off := 73) (tgt := 90) dX11_isAhead_17 (by decide) (by decide) (by decide) rfl (by decide) ?_
        rw [if_neg (show ¬ (3 : Int) = 1 by decide), if_neg (show ¬ (3 : Int) = 1 by decide), if_neg (show ¬ (3 : Int) = 2 by decide), if_neg (show ¬ (3 : Int) = 2 by decide), if_pos (show (3 : Int) = 3 from rfl), if_pos (show (3 : Int) = 3 from rfl)] at K
        have J110 : ¬ ((if s 9 (s 13 r).toNat = -(s 14 r) then (0 : Int) else 1) < if s 9 (s 13 k).toNat = -(s 14 k) then 0 else 1) → go 289 2 0 0 mX11_isAhead Q X 110 [.ref 276, .int (iI (r : Nat)), .int (iI (k : Nat)), .int (iI 3), .int (iI (m : Nat)), .int (iI (o : Nat))] [] (md σ ν μ) := by
          intro g
          refine go_iconst (y := mX11_isAhead) (pc := 110) dX11_isAhead_110 ?_
          refine go_zreturn (y := mX11_isAhead) (pc := 111) dX11_isAhead_111 rfl (by omega) ?_
          exact K _ (bI_f g).symm (by omega)
        refine go_aload_n (y := mX11_isAhead) (pc := 90) dX11_isAhead_90 rfl rfl ?_
        refine go_iload_n (y := mX11_isAhead) (pc := 91) dX11_isAhead_91 rfl rfl ?_
        refine go_callV1 (y := mX11_isAhead) (pc := 92) (y' := mX11_isContrast) (kc2 := 0) (ks2 := 0) dX11_isAhead_92 ml_X11_103 ok_X11_isContrast (show shp 276 = _ from rfl) ⟨_, _, rfl⟩ (by decide) rfl (by decide) (Nat.le_of_ble_eq_true rfl) rfl (m_isContrast (r := r) (by omega) hr hS hC (fun v92 e92 b92 => ?_))
        refine go_if_eq (y := mX11_isAhead) (pc := 95) (tgt := 110) dX11_isAhead_95 (by decide) (by omega) (fun h95 => ?_) (fun h95 => ?_)
        · skip
          exact J110 (by rw [if_neg (bI_0 e92 h95)]; split <;> omega)
        · skip
          refine go_aload_n (y := mX11_isAhead) (pc := 98) dX11_isAhead_98 rfl rfl ?_
          refine go_iload_n (y := mX11_isAhead) (pc := 99) dX11_isAhead_99 rfl rfl ?_
          refine go_callV1 (y := mX11_isAhead) (pc := 100) (y' := mX11_isContrast) (kc2 := 0) (ks2 := 0) dX11_isAhead_100 ml_X11_103 ok_X11_isContrast (show shp 276 = _ from rfl) ⟨_, _, rfl⟩ (by decide) rfl (by decide) (Nat.le_of_ble_eq_true rfl) rfl (m_isContrast (r := k) (by omega) hr hS hC (fun v100 e100 b100 => ?_))
          refine go_if_ne (y := mX11_isAhead) (pc := 103) (tgt := 110) dX11_isAhead_103 (by decide) (by omega) (fun h103 => ?_) (fun h103 => ?_)
          · skip
            exact J110 (by rw [if_pos (bI_1 e92 h95), if_pos (bI_1 e100 h103)]; omega)
          · skip
            refine go_iconst (y := mX11_isAhead) (pc := 106) dX11_isAhead_106 ?_
            refine go_goto (y := mX11_isAhead) (pc := 107) (tgt := 111) dX11_isAhead_107 (by decide) ?_
            refine go_zreturn (y := mX11_isAhead) (pc := 111) dX11_isAhead_111 rfl (by omega) ?_
            exact K _ (bI_t (by rw [if_pos (bI_1 e92 h95), if_neg (bI_0 e100 h103)]; omega)).symm (by omega)
      · skip
        refine go_tbOut (y := mX11_isAhead) (pc := 17) (tgt := 112) dX11_isAhead_17 (by omega) (by omega) (by decide) ?_
        rw [if_neg h1, if_neg h2, if_neg h3, if_neg h1, if_neg h2, if_neg h3] at K
        refine go_iconst (y := mX11_isAhead) (pc := 112) dX11_isAhead_112 ?_
        refine go_zreturn (y := mX11_isAhead) (pc := 113) dX11_isAhead_113 rfl (by omega) ?_
        exact K _ (bI_f (by omega)).symm (by omega)
set_option maxRecDepth 8000 in
set_option maxHeartbeats 4000000 in
theorem m_firstOf {rk : Int} (hrk : rng rk) (hr : rel S s ν) (hS : wfS S) (hC : wfC S s) {Q : Option Value → Mem → Prop} {X : String → Mem → Prop} (K : ∀ v, v = fsl S s rk → -1 ≤ v ∧ v < 12 ∧ (v = -1 ∨ v < s 11 0) → Q (some (.int (iI v))) (md σ ν μ)) : mt 289 3 0 0 mX11_firstOf [.ref 276, .int (iI rk)] Q X (md σ ν μ) := by
  show go 289 3 0 0 mX11_firstOf Q X 0 [.ref 276, .int (iI rk), .null, .null] [] _
  have r0 := hC.1.2.2.1
  have r12 : s 11 0 ≤ 12 := by have := hC.1.2.2.2.1; have := hS.2.2.2.2.2.2.2.2.2.2.2.2.2.2.2.1; omega
  have loop : ∀ (n k b : Nat), (k : Int) + 1 + n = s 11 0 → b < k + 1 → fsk S s rk (k + 1) = ((b : Int), rnk S s b rk) → go 289 3 0 0 mX11_firstOf Q X 18 [.ref 276, .int (iI rk), .int (iI (b : Nat)), .int (iI (k + 1 : Nat))] [] (md σ ν μ) := by
    intro n
    induction n using Nat.strongRecOn with
    | _ n ih =>
      intro k b hk hb hf
      have ih' := ih (n - 1)
      refine go_iload_n (y := mX11_firstOf) (pc := 18) dX11_firstOf_18 rfl rfl ?_
      refine go_aload_n (y := mX11_firstOf) (pc := 19) dX11_firstOf_19 rfl rfl ?_
      refine go_mref (y := mX11_firstOf) (pc := 20) dX11_firstOf_20 fl_X11_7 rfl rfl (by decide) ?_
      refine go_bipush (y := mX11_firstOf) (pc := 23) dX11_firstOf_23 (by decide) ?_
      refine go_nial (y := mX11_firstOf) (pc := 25) (k := 11) dX11_firstOf_25 (by decide) rfl (by omega) (fun r25 => ?_)
      refine go_top (b := s 11 0) (rs11 hr) (fun t25 => ?_)
      refine go_icmp_ge (y := mX11_firstOf) (pc := 26) (tgt := 47) dX11_firstOf_26 (by decide) (by omega) (by omega) (fun h26 => ?_) (fun h26 => ?_)
      · skip
        refine go_iload_n (y := mX11_firstOf) (pc := 47) dX11_firstOf_47 rfl rfl ?_
        refine go_ireturn (y := mX11_firstOf) (pc := 48) dX11_firstOf_48 rfl ?_
        refine K _ ?_ (by omega)
        unfold fsl
        rw [show (s 11 0).toNat = k + 1 by omega, hf]
      · skip
        refine go_aload_n (y := mX11_firstOf) (pc := 29) dX11_firstOf_29 rfl rfl ?_
        refine go_iload_n (y := mX11_firstOf) (pc := 30) dX11_firstOf_30 rfl rfl ?_
        refine go_iload_n (y := mX11_firstOf) (pc := 31) dX11_firstOf_31 rfl rfl ?_
        refine go_iload_n (y := mX11_firstOf) (pc := 32) dX11_firstOf_32 rfl rfl ?_
        refine go_callV3 (y := mX11_firstOf) (pc := 33) (y' := mX11_isAhead) (kc2 := 0) (ks2 := 0) dX11_firstOf_33 ml_X11_107 ok_X11_isAhead (show shp 276 = _ from rfl) ⟨_, _, rfl⟩ (by decide) ⟨rfl, rfl, rfl⟩ (by decide) (Nat.le_of_ble_eq_true rfl) rfl (m_isAhead (r := (k + 1)) (k := b) (by omega) (by omega) (by omega) hr hS hC (fun v33 e33 b33 => ?_))
        refine go_if_eq (y := mX11_firstOf) (pc := 36) (tgt := 41) dX11_firstOf_36 (by decide) (by omega) (fun h36 => ?_) (fun h36 => ?_)
        · skip
          refine go_iinc (y := mX11_firstOf) (pc := 41) dX11_firstOf_41 rfl (by decide) ?_
          refine go_goto (y := mX11_firstOf) (pc := 44) (tgt := 18) dX11_firstOf_44 (by decide) ?_
          refine ih' (by omega) (k + 1) b (by omega) (by omega) ?_
          rw [fsk, hf, if_neg]
          intro w
          rcases w with w | w
          · have w2 : (b : Int) = -1 := w
            omega
          · exact bI_0 e33 h36 w
        · skip
          refine go_iload_n (y := mX11_firstOf) (pc := 39) dX11_firstOf_39 rfl rfl ?_
          refine go_istore_n (y := mX11_firstOf) (pc := 40) dX11_firstOf_40 rfl (by decide) ?_
          refine go_iinc (y := mX11_firstOf) (pc := 41) dX11_firstOf_41 rfl (by decide) ?_
          refine go_goto (y := mX11_firstOf) (pc := 44) (tgt := 18) dX11_firstOf_44 (by decide) ?_
          refine ih' (by omega) (k + 1) (k + 1) (by omega) (by omega) ?_
          rw [fsk, hf, if_pos (Or.inr (bI_1 e33 h36))]
  refine go_aload_n (y := mX11_firstOf) (pc := 0) dX11_firstOf_0 rfl rfl ?_
  refine go_mref (y := mX11_firstOf) (pc := 1) dX11_firstOf_1 fl_X11_7 rfl rfl (by decide) ?_
  refine go_bipush (y := mX11_firstOf) (pc := 4) dX11_firstOf_4 (by decide) ?_
  refine go_nial (y := mX11_firstOf) (pc := 6) (k := 11) dX11_firstOf_6 (by decide) rfl (by omega) (fun r6 => ?_)
  refine go_top (b := s 11 0) (rs11 hr) (fun t6 => ?_)
  refine go_if_ne (y := mX11_firstOf) (pc := 7) (tgt := 14) dX11_firstOf_7 (by decide) (by omega) (fun h7 => ?_) (fun h7 => ?_)
  · skip
    refine go_iconst (y := mX11_firstOf) (pc := 14) dX11_firstOf_14 ?_
    refine go_istore_n (y := mX11_firstOf) (pc := 15) dX11_firstOf_15 rfl (by decide) ?_
    refine go_iconst (y := mX11_firstOf) (pc := 16) dX11_firstOf_16 ?_
    refine go_istore_n (y := mX11_firstOf) (pc := 17) dX11_firstOf_17 rfl (by decide) ?_
    obtain ⟨b, h1, h2⟩ := fsk_i S s rk 0
    obtain rfl : b = 0 := by omega
    exact loop ((s 11 0).toNat - 1) 0 0 (by omega) (by omega) h2
  · skip
    refine go_iconst (y := mX11_firstOf) (pc := 10) dX11_firstOf_10 ?_
    refine go_goto (y := mX11_firstOf) (pc := 11) (tgt := 15) dX11_firstOf_11 (by decide) ?_
    refine go_istore_n (y := mX11_firstOf) (pc := 15) dX11_firstOf_15 rfl (by decide) ?_
    refine go_iconst (y := mX11_firstOf) (pc := 16) dX11_firstOf_16 ?_
    refine go_istore_n (y := mX11_firstOf) (pc := 17) dX11_firstOf_17 rfl (by decide) ?_
    refine go_iload_n (y := mX11_firstOf) (pc := 18) dX11_firstOf_18 rfl rfl ?_
    refine go_aload_n (y := mX11_firstOf) (pc := 19) dX11_firstOf_19 rfl rfl ?_
    refine go_mref (y := mX11_firstOf) (pc := 20) dX11_firstOf_20 fl_X11_7 rfl rfl (by decide) ?_
    refine go_bipush (y := mX11_firstOf) (pc := 23) dX11_firstOf_23 (by decide) ?_
    refine go_nial (y := mX11_firstOf) (pc := 25) (k := 11) dX11_firstOf_25 (by decide) rfl (by omega) (fun r25 => ?_)
    refine go_top (b := s 11 0) (rs11 hr) (fun t25 => ?_)
    refine go_icmp_ge (y := mX11_firstOf) (pc := 26) (tgt := 47) dX11_firstOf_26 (by decide) (by omega) (by omega) (fun h26 => ?_) (fun h26 => ?_)
    · skip
      refine go_iload_n (y := mX11_firstOf) (pc := 47) dX11_firstOf_47 rfl rfl ?_
      refine go_ireturn (y := mX11_firstOf) (pc := 48) dX11_firstOf_48 rfl ?_
      refine K _ ?_ (by omega)
      unfold fsl
      rw [show (s 11 0).toNat = 0 by omega]
      rfl
    · skip
      exact absurd h26 (by omega)
end MReads2
set_option maxRecDepth 8000 in
set_option maxHeartbeats 4000000 in
theorem m_drops {σ μ : Mem} {ν : Nat → Int} {r : Nat} (h : (r : Int) < ν 11) (h12 : ν 11 ≤ 12) {Q : Option Value → Mem → Prop} {X : String → Mem → Prop} (K : Q none (md σ (dpv ν r) μ)) : mt 289 0 0 0 mX11_drops [.ref 276, .int (iI (r : Nat))] Q X (md σ ν μ) := by
  show go 289 0 0 0 mX11_drops Q X 0 [.ref 276, .int (iI (r : Nat)), .null] [] _
  have o11 : ∀ i, dpi ν r i 11 = ν 11 - 1 := fun i => by unfold dpi; rw [if_neg (by omega), wv_s]
  have loop : ∀ (n i : Nat), i + n = 3 * ((ν 11 - 1).toNat - r) → go 289 0 0 0 mX11_drops Q X 19 [.ref 276, .int (iI (r : Nat)), .int (iI (382 + 3 * r + i : Nat))] [] (md σ (dpi ν r i) μ) := by
    intro n
    induction n using Nat.strongRecOn with
    | _ n ih =>
      intro i hi
      have ih' := ih (n - 1)
      refine go_iload_n (y := mX11_drops) (pc := 19) dX11_drops_19 rfl rfl ?_
      refine go_sipush (y := mX11_drops) (pc := 20) dX11_drops_20 (by decide) ?_
      refine go_iconst (y := mX11_drops) (pc := 23) dX11_drops_23 ?_
      refine go_aload_n (y := mX11_drops) (pc := 24) dX11_drops_24 rfl rfl ?_
      refine go_mref (y := mX11_drops) (pc := 25) dX11_drops_25 fl_X11_7 rfl rfl (by decide) ?_
      refine go_bipush (y := mX11_drops) (pc := 28) dX11_drops_28 (by decide) ?_
      refine go_nial (y := mX11_drops) (pc := 30) (k := 11) dX11_drops_30 (by decide) rfl (by omega) (fun r30 => ?_)
      refine go_top (b := ν 11 - 1) (o11 i) (fun t30 => ?_)
      refine go_imul (y := mX11_drops) (pc := 31) dX11_drops_31 ?_
      refine go_iadd (y := mX11_drops) (pc := 32) dX11_drops_32 ?_
      refine go_icmp_ge (y := mX11_drops) (pc := 33) (tgt := 56) dX11_drops_33 (by decide) (by omega) (by omega) (fun h33 => ?_) (fun h33 => ?_)
      · skip
        refine go_return (y := mX11_drops) (pc := 56) dX11_drops_56 rfl ?_
        have e : i = 3 * ((ν 11 - 1).toNat - r) := by omega
        subst e
        exact K
      · skip
        refine go_aload_n (y := mX11_drops) (pc := 36) dX11_drops_36 rfl rfl ?_
        refine go_mref (y := mX11_drops) (pc := 37) dX11_drops_37 fl_X11_7 rfl rfl (by decide) ?_
        refine go_iload_n (y := mX11_drops) (pc := 40) dX11_drops_40 rfl rfl ?_
        refine go_aload_n (y := mX11_drops) (pc := 41) dX11_drops_41 rfl rfl ?_
        refine go_mref (y := mX11_drops) (pc := 42) dX11_drops_42 fl_X11_7 rfl rfl (by decide) ?_
        refine go_iload_n (y := mX11_drops) (pc := 45) dX11_drops_45 rfl rfl ?_
        refine go_iconst (y := mX11_drops) (pc := 46) dX11_drops_46 ?_
        refine go_iadd (y := mX11_drops) (pc := 47) dX11_drops_47 ?_
        refine go_nial (y := mX11_drops) (pc := 48) (k := ((382 + 3 * r + i) + 3)) dX11_drops_48 (by decide) (by omega) (by omega) (fun r48 => ?_)
        refine go_nias (y := mX11_drops) (pc := 49) (k := (382 + 3 * r + i)) dX11_drops_49 (by decide) (by omega) (by omega) (by omega) ?_
        refine go_iinc (y := mX11_drops) (pc := 50) dX11_drops_50 rfl (by decide) ?_
        refine go_goto (y := mX11_drops) (pc := 53) (tgt := 19) dX11_drops_53 (by decide) ?_
        rw [dpi_s]
        exact ih' (by omega) (i + 1) (by omega)
  refine go_aload_n (y := mX11_drops) (pc := 0) dX11_drops_0 rfl rfl ?_
  refine go_mref (y := mX11_drops) (pc := 1) dX11_drops_1 fl_X11_7 rfl rfl (by decide) ?_
  refine go_bipush (y := mX11_drops) (pc := 4) dX11_drops_4 (by decide) ?_
  refine go_dup2 (y := mX11_drops) (pc := 6) dX11_drops_6 rfl rfl ?_
  refine go_nial (y := mX11_drops) (pc := 7) (k := 11) dX11_drops_7 (by decide) rfl (by omega) (fun r7 => ?_)
  refine go_iconst (y := mX11_drops) (pc := 8) dX11_drops_8 ?_
  refine go_isub (y := mX11_drops) (pc := 9) dX11_drops_9 ?_
  refine go_nias (y := mX11_drops) (pc := 10) (k := 11) dX11_drops_10 (by decide) rfl (by omega) (by omega) ?_
  refine go_sipush (y := mX11_drops) (pc := 11) dX11_drops_11 (by decide) ?_
  refine go_iconst (y := mX11_drops) (pc := 14) dX11_drops_14 ?_
  refine go_iload_n (y := mX11_drops) (pc := 15) dX11_drops_15 rfl rfl ?_
  refine go_imul (y := mX11_drops) (pc := 16) dX11_drops_16 ?_
  refine go_iadd (y := mX11_drops) (pc := 17) dX11_drops_17 ?_
  refine go_istore_n (y := mX11_drops) (pc := 18) dX11_drops_18 rfl (by decide) ?_
  have h9 := loop (3 * ((ν 11 - 1).toNat - r)) 0 (by omega)
  rw [dpi_0] at h9
  exact h9
set_option maxRecDepth 8000 in
set_option maxHeartbeats 4000000 in
theorem m_dropsAll {σ μ : Mem} {ν : Nat → Int} {q : Int} (hq : rng q) (h0 : 0 ≤ ν 11) (h12 : ν 11 ≤ 12) {Q : Option Value → Mem → Prop} {X : String → Mem → Prop} (K : Q (some (.int (iI (drc q (ν 11).toNat ν)))) (md σ (dra q (ν 11).toNat ν) μ)) : mt 289 1 0 0 mX11_dropsAll [.ref 276, .int (iI q)] Q X (md σ ν μ) := by
  show go 289 1 0 0 mX11_dropsAll Q X 0 [.ref 276, .int (iI q), .null, .null] [] _
  have loop : ∀ (k n : Nat) (ν' : Nat → Int), (k : Int) ≤ ν' 11 → ν' 11 ≤ 12 → n ≤ 12 - k → (Q (some (.int (iI ((n + drc q k ν' : Nat) : Int)))) (md σ (dra q k ν') μ)) → go 289 1 0 0 mX11_dropsAll Q X 12 [.ref 276, .int (iI q), .int (iI (n : Nat)), .int (iI ((k : Int) - 1))] [] (md σ ν' μ) := by
    intro k
    induction k with
    | zero =>
      intro n ν' h1 h2 h3 K
      refine go_iload_n (y := mX11_dropsAll) (pc := 12) dX11_dropsAll_12 rfl rfl ?_
      refine go_if_lt (y := mX11_dropsAll) (pc := 13) (tgt := 43) dX11_dropsAll_13 (by decide) (by omega) (fun h13 => ?_) (fun h13 => ?_)
      · skip
        refine go_iload_n (y := mX11_dropsAll) (pc := 43) dX11_dropsAll_43 rfl rfl ?_
        refine go_ireturn (y := mX11_dropsAll) (pc := 44) dX11_dropsAll_44 rfl ?_
        exact K
      · skip
        exact absurd h13 (by omega)
    | succ k ih =>
      intro n ν' h1 h2 h3 K
      refine go_mem rfl ?_
      refine go_iload_n (y := mX11_dropsAll) (pc := 12) dX11_dropsAll_12 rfl rfl ?_
      refine go_if_lt (y := mX11_dropsAll) (pc := 13) (tgt := 43) dX11_dropsAll_13 (by decide) (by omega) (fun h13 => ?_) (fun h13 => ?_)
      · skip
        exact absurd h13 (by omega)
      · skip
        have J37 : ∀ (n' : Nat) (ν2 : Nat → Int), (k : Int) ≤ ν2 11 → ν2 11 ≤ 12 → n' ≤ 12 - k → (Q (some (.int (iI ((n' + drc q k ν2 : Nat) : Int)))) (md σ (dra q k ν2) μ)) → go 289 1 0 0 mX11_dropsAll Q X 37 [.ref 276, .int (iI q), .int (iI (n' : Nat)), .int (iI (((k + 1 : Nat) : Int) - 1))] [] (md σ ν2 μ) := by
          intro n' ν2 g1 g2 g3 K2
          refine go_iinc (y := mX11_dropsAll) (pc := 37) dX11_dropsAll_37 rfl (by decide) ?_
          refine go_goto (y := mX11_dropsAll) (pc := 40) (tgt := 12) dX11_dropsAll_40 (by decide) ?_
          have h := ih n' ν2 g1 g2 g3 K2
          rw [show (k : Int) - 1 = ((k + 1 : Nat) : Int) - 1 + -1 by omega] at h
          exact h
        refine go_aload_n (y := mX11_dropsAll) (pc := 16) dX11_dropsAll_16 rfl rfl ?_
        refine go_iload_n (y := mX11_dropsAll) (pc := 17) dX11_dropsAll_17 rfl rfl ?_
        refine go_top (b := ((k : Nat) : Int)) (by omega) (fun t17 => ?_)
        refine go_iconst (y := mX11_dropsAll) (pc := 18) dX11_dropsAll_18 ?_
        refine go_callV2 (y := mX11_dropsAll) (pc := 19) (y' := mX11_ofR) (kc2 := 0) (ks2 := 0) dX11_dropsAll_19 ml_X11_97 ok_X11_ofR (show shp 276 = _ from rfl) ⟨_, _, rfl⟩ (by decide) ⟨rfl, rfl⟩ (by decide) (Nat.le_of_ble_eq_true rfl) rfl (m_ofR (r := k) (w := 1) (by omega) (by decide) (fun v19 e19 r19 => ?_))
        refine go_iload_n (y := mX11_dropsAll) (pc := 22) dX11_dropsAll_22 rfl rfl ?_
        refine go_icmp_eq (y := mX11_dropsAll) (pc := 23) (tgt := 29) dX11_dropsAll_23 (by decide) (by omega) (by omega) (fun h23 => ?_) (fun h23 => ?_)
        · skip
          refine go_aload_n (y := mX11_dropsAll) (pc := 29) dX11_dropsAll_29 rfl rfl ?_
          refine go_iload_n (y := mX11_dropsAll) (pc := 30) dX11_dropsAll_30 rfl rfl ?_
          refine go_top (b := ((k : Nat) : Int)) (by omega) (fun t30 => ?_)
          refine go_callV1 (y := mX11_dropsAll) (pc := 31) (y' := mX11_drops) (kc2 := 0) (ks2 := 0) dX11_dropsAll_31 ml_X11_110 ok_X11_drops (show shp 276 = _ from rfl) ⟨_, _, rfl⟩ (by decide) rfl (by decide) (Nat.le_of_ble_eq_true rfl) rfl (m_drops (r := k) (by omega) (by omega) ?_)
          refine go_iinc (y := mX11_dropsAll) (pc := 34) dX11_dropsAll_34 rfl (by decide) ?_
          refine J37 (n + 1) (dpv ν' k) ?_ ?_ (by omega) ?_
          · rw [dpv_lo (by decide), if_pos rfl]; omega
          · rw [dpv_lo (by decide), if_pos rfl]; omega
          · have e : ν' (382 + 3 * k + 1) = q := by rw [← e19]; exact h23
            rw [dra, drc, if_pos e, if_pos e, ← Nat.add_assoc] at K
            exact K
        · skip
          refine go_goto (y := mX11_dropsAll) (pc := 26) (tgt := 37) dX11_dropsAll_26 (by decide) ?_
          have e : ¬ ν' (382 + 3 * k + 1) = q := by rw [← e19]; exact h23
          rw [dra, drc, if_neg e, if_neg e, Nat.zero_add] at K
          exact J37 n ν' (by omega) h2 (by omega) K
  refine go_iconst (y := mX11_dropsAll) (pc := 0) dX11_dropsAll_0 ?_
  refine go_istore_n (y := mX11_dropsAll) (pc := 1) dX11_dropsAll_1 rfl (by decide) ?_
  refine go_aload_n (y := mX11_dropsAll) (pc := 2) dX11_dropsAll_2 rfl rfl ?_
  refine go_mref (y := mX11_dropsAll) (pc := 3) dX11_dropsAll_3 fl_X11_7 rfl rfl (by decide) ?_
  refine go_bipush (y := mX11_dropsAll) (pc := 6) dX11_dropsAll_6 (by decide) ?_
  refine go_nial (y := mX11_dropsAll) (pc := 8) (k := 11) dX11_dropsAll_8 (by decide) rfl (by omega) (fun r8 => ?_)
  refine go_iconst (y := mX11_dropsAll) (pc := 9) dX11_dropsAll_9 ?_
  refine go_isub (y := mX11_dropsAll) (pc := 10) dX11_dropsAll_10 ?_
  refine go_istore_n (y := mX11_dropsAll) (pc := 11) dX11_dropsAll_11 rfl (by decide) ?_
  have h := loop (ν 11).toNat 0 ν (by omega) h12 (by omega) (by rw [Nat.zero_add]; exact K)
  rw [show (((ν 11).toNat : Nat) : Int) = ν 11 by omega] at h
  exact h
