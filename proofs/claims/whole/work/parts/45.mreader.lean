/-! THE MODEL'S READER -/
def rom (f : Int → Int) (L : Nat) (s : Nat × Int × Int) (σ : Mem) : Prop := okB f L σ ∧ σ 0 13 = (s.1 : Int) ∧ σ 0 14 = tkT f s.1 ∧ σ 0 12 = (tkE f L s.1 : Nat) ∧ σ 0 16 = s.2.1 ∧ σ 0 17 = s.2.2 ∧ (tkK f s.1 = 2 → σ 0 15 = nmv f L s.1) ∧ s.1 ≤ L
/-- all but the reader's six numbers is the same -/
def smo (σ' σ : Mem) : Prop := ∀ r j : Nat, (r ≠ 0 ∨ j < 12 ∨ 17 < j) → σ' r j = σ r j
theorem smo_r (σ : Mem) : smo σ σ := fun _ _ _ => rfl
theorem smo_t {a b c : Mem} (h : smo a b) (g : smo b c) : smo a c := fun r j w => (h r j w).trans (g r j w)
theorem smo_w {σ : Mem} {i : Nat} {v : Int} (h : 12 ≤ i ∧ i ≤ 17) : smo (wr σ 0 i v) σ := fun r j w => wr_n (by omega)
theorem rom_rd {f : Int → Int} {L e : Nat} {σ : Mem} {c p : Int} (hB : okB f L σ) (h4 : σ 0 16 = c) (h5 : σ 0 17 = p) (he : e ≤ L) : rom f L (tkB f L e, c, p) (rdM σ f L (tkB f L e)) ∧ smo (rdM σ f L (tkB f L e)) σ := by
  unfold rdM
  refine ⟨⟨okB_w (okB_w (okB_w (okB_w hB (by decide)) (by decide)) (by decide)) (by decide), ?_, ?_, ?_, ?_, ?_, fun h => ?_, (tkB_b he).2⟩, smo_t (smo_w (by decide)) (smo_t (smo_w (by decide)) (smo_t (smo_w (by decide)) (smo_w (by decide))))⟩
  · rw [wr_ni (by decide), wr_ni (by decide), wr_ni (by decide), wr_s]
  · rw [wr_ni (by decide), wr_ni (by decide), wr_s]
  · rw [wr_s]
  · rw [wr_ni (by decide), wr_ni (by decide), wr_ni (by decide), wr_ni (by decide)]
    exact h4
  · rw [wr_ni (by decide), wr_ni (by decide), wr_ni (by decide), wr_ni (by decide)]
    exact h5
  · rw [wr_ni (by decide), wr_s, if_pos h]
section MReader
variable {σ μ : Mem} {ν : Nat → Int} {f : Int → Int} {L : Nat} {s : Nat × Int × Int}
set_option maxRecDepth 8000 in
set_option maxHeartbeats 4000000 in
theorem m_must {p : Prop} [Decidable p] {c its : Int} (hc : c = bI p) (hi : 1 ≤ its ∧ its ≤ 4) (hr : rom f L s σ) {Q : Option Value → Mem → Prop} {X : String → Mem → Prop} (K : ∀ σ' v, rom f L (mus s p its) σ' → smo σ' σ → v = bI ((mus s p its).2.1 = 0) → v = 0 ∨ v = 1 → Q (some (.int (iI v))) (md σ' ν μ)) : mt 289 0 0 0 mX11_must [.ref 276, .int (iI c), .int (iI its)] Q X (md σ ν μ) := by
  show go 289 0 0 0 mX11_must Q X 0 [.ref 276, .int (iI c), .int (iI its)] [] _
  have hr' := hr
  obtain ⟨h0, h1, h2, h3, h4, h5, h6, h7⟩ := hr
  have cb : c = 0 ∨ c = 1 := by rw [hc]; exact bI_01 p
  have hL7 := h0.2.1
  have J24 : mus s p its = s → go 289 0 0 0 mX11_must Q X 24 [.ref 276, .int (iI c), .int (iI its)] [] (md σ ν μ) := by
    intro hm
    rw [hm] at K
    refine go_aload_n (y := mX11_must) (pc := 24) dX11_must_24 rfl rfl ?_
    refine go_mget (y := mX11_must) (pc := 25) dX11_must_25 fl_X11_189 rfl rfl (by decide) (fun r25 => ?_)
    refine go_top (b := s.2.1) (h4) (fun t25 => ?_)
    refine go_if_ne (y := mX11_must) (pc := 28) (tgt := 35) dX11_must_28 (by decide) (by omega) (fun h28 => ?_) (fun h28 => ?_)
    · skip
      refine go_iconst (y := mX11_must) (pc := 35) dX11_must_35 ?_
      refine go_zreturn (y := mX11_must) (pc := 36) dX11_must_36 rfl (by omega) ?_
      exact K σ 0 hr' (smo_r σ) (bI_f (by omega)).symm (by omega)
    · skip
      refine go_iconst (y := mX11_must) (pc := 31) dX11_must_31 ?_
      refine go_goto (y := mX11_must) (pc := 32) (tgt := 36) dX11_must_32 (by decide) ?_
      refine go_zreturn (y := mX11_must) (pc := 36) dX11_must_36 rfl (by omega) ?_
      exact K σ 1 hr' (smo_r σ) (bI_t (by omega)).symm (by omega)
  refine go_aload_n (y := mX11_must) (pc := 0) dX11_must_0 rfl rfl ?_
  refine go_mget (y := mX11_must) (pc := 1) dX11_must_1 fl_X11_189 rfl rfl (by decide) (fun r1 => ?_)
  refine go_top (b := s.2.1) (h4) (fun t1 => ?_)
  refine go_if_ne (y := mX11_must) (pc := 4) (tgt := 24) dX11_must_4 (by decide) (by omega) (fun g4 => ?_) (fun g4 => ?_)
  · skip
    exact J24 (mus_c g4)
  · skip
    refine go_iload_n (y := mX11_must) (pc := 7) dX11_must_7 rfl rfl ?_
    refine go_if_ne (y := mX11_must) (pc := 8) (tgt := 24) dX11_must_8 (by decide) (by omega) (fun h8 => ?_) (fun h8 => ?_)
    · skip
      exact J24 (mus_t (bI_1 hc h8))
    · skip
      refine go_aload_n (y := mX11_must) (pc := 11) dX11_must_11 rfl rfl ?_
      refine go_iload_n (y := mX11_must) (pc := 12) dX11_must_12 rfl rfl ?_
      refine go_mput (y := mX11_must) (pc := 13) dX11_must_13 fp_X11_189 rfl rfl (by decide) (by omega) ?_
      refine go_aload_n (y := mX11_must) (pc := 16) dX11_must_16 rfl rfl ?_
      refine go_aload_n (y := mX11_must) (pc := 17) dX11_must_17 rfl rfl ?_
      refine go_mget (y := mX11_must) (pc := 18) dX11_must_18 fl_X11_180 rfl rfl (by decide) (fun r18 => ?_)
      refine go_top (b := ((s.1 : Nat) : Int)) (((wr_ni (by decide)).trans h1)) (fun t18 => ?_)
      refine go_mput (y := mX11_must) (pc := 21) dX11_must_21 fp_X11_192 rfl rfl (by decide) (by omega) ?_
      have hm := mus_f (i := its) g4 (bI_0 hc h8)
      rw [hm] at K
      refine go_aload_n (y := mX11_must) (pc := 24) dX11_must_24 rfl rfl ?_
      refine go_mget (y := mX11_must) (pc := 25) dX11_must_25 fl_X11_189 rfl rfl (by decide) (fun r25 => ?_)
      refine go_top (b := its) (((wr_ni (by decide)).trans (wr_s _ _ _ _))) (fun t25 => ?_)
      refine go_if_ne (y := mX11_must) (pc := 28) (tgt := 35) dX11_must_28 (by decide) (by omega) (fun h28 => ?_) (fun h28 => ?_)
      · skip
        refine go_iconst (y := mX11_must) (pc := 35) dX11_must_35 ?_
        refine go_zreturn (y := mX11_must) (pc := 36) dX11_must_36 rfl (by omega) ?_
        exact K _ 0 ⟨okB_w (okB_w h0 (by decide)) (by decide), by rw [wr_ni (by decide), wr_ni (by decide)]; exact h1, by rw [wr_ni (by decide), wr_ni (by decide)]; exact h2, by rw [wr_ni (by decide), wr_ni (by decide)]; exact h3, by rw [wr_ni (by decide), wr_s], by rw [wr_s], fun w => by rw [wr_ni (by decide), wr_ni (by decide)]; exact h6 w, h7⟩ (smo_t (smo_w (by decide)) (smo_w (by decide))) (bI_f (show ¬ its = 0 by omega)).symm (by omega)
      · skip
        exact absurd h28 (by omega)
set_option maxRecDepth 8000 in
set_option maxHeartbeats 4000000 in
theorem m_goesOn (hr : rom f L s σ) {Q : Option Value → Mem → Prop} {X : String → Mem → Prop} (K : ∀ σ', rom f L (gon f L s) σ' → smo σ' σ → Q none (md σ' ν μ)) : mt 289 2 0 0 mX11_goesOn [.ref 276] Q X (md σ ν μ) := by
  show go 289 2 0 0 mX11_goesOn Q X 0 [.ref 276] [] _
  have hr' := hr
  obtain ⟨h0, h1, h2, h3, h4, h5, h6, h7⟩ := hr
  have tb := tkE_b (b := s.1) h7 h0.2.2.2
  refine go_aload_n (y := mX11_goesOn) (pc := 0) dX11_goesOn_0 rfl rfl ?_
  refine go_mget (y := mX11_goesOn) (pc := 1) dX11_goesOn_1 fl_X11_189 rfl rfl (by decide) (fun r1 => ?_)
  refine go_top (b := s.2.1) (h4) (fun t1 => ?_)
  refine go_if_ne (y := mX11_goesOn) (pc := 4) (tgt := 11) dX11_goesOn_4 (by decide) (by omega) (fun g4 => ?_) (fun g4 => ?_)
  · skip
    rw [gon_c g4] at K
    refine go_return (y := mX11_goesOn) (pc := 11) dX11_goesOn_11 rfl ?_
    exact K σ hr' (smo_r σ)
  · skip
    have hg : gon f L s = (nxt f L s.1, 0, s.2.2) := if_pos g4
    rw [hg] at K
    refine go_aload_n (y := mX11_goesOn) (pc := 7) dX11_goesOn_7 rfl rfl ?_
    refine go_callV0 (y := mX11_goesOn) (pc := 8) (y' := mX11_reads) (kc2 := 0) (ks2 := 0) dX11_goesOn_8 ml_X11_195 ok_X11_reads (show shp 276 = _ from rfl) ⟨_, _, rfl⟩ (by decide) trivial (by decide) (Nat.le_of_ble_eq_true rfl) rfl (m_reads h0 h3 tb.2 ?_)
    refine go_return (y := mX11_goesOn) (pc := 11) dX11_goesOn_11 rfl ?_
    have h := rom_rd h0 (h4.trans g4) h5 tb.2
    exact K _ h.1 h.2
set_option maxRecDepth 8000 in
set_option maxHeartbeats 4000000 in
theorem m_starts (hB : okB f L σ) {Q : Option Value → Mem → Prop} {X : String → Mem → Prop} (K : ∀ σ', rom f L (tkB f L 0, 0, -1) σ' → smo σ' σ → Q none (md σ' ν μ)) : mt 289 2 0 0 mX11_starts [.ref 276] Q X (md σ ν μ) := by
  show go 289 2 0 0 mX11_starts Q X 0 [.ref 276] [] _
  refine go_aload_n (y := mX11_starts) (pc := 0) dX11_starts_0 rfl rfl ?_
  refine go_iconst (y := mX11_starts) (pc := 1) dX11_starts_1 ?_
  refine go_mput (y := mX11_starts) (pc := 2) dX11_starts_2 fp_X11_174 rfl rfl (by decide) (by omega) ?_
  refine go_aload_n (y := mX11_starts) (pc := 5) dX11_starts_5 rfl rfl ?_
  refine go_iconst (y := mX11_starts) (pc := 6) dX11_starts_6 ?_
  refine go_mput (y := mX11_starts) (pc := 7) dX11_starts_7 fp_X11_189 rfl rfl (by decide) (by omega) ?_
  refine go_aload_n (y := mX11_starts) (pc := 10) dX11_starts_10 rfl rfl ?_
  refine go_iconst (y := mX11_starts) (pc := 11) dX11_starts_11 ?_
  refine go_mput (y := mX11_starts) (pc := 12) dX11_starts_12 fp_X11_192 rfl rfl (by decide) (by omega) ?_
  refine go_aload_n (y := mX11_starts) (pc := 15) dX11_starts_15 rfl rfl ?_
  refine go_callV0 (y := mX11_starts) (pc := 16) (y' := mX11_reads) (kc2 := 0) (ks2 := 0) dX11_starts_16 ml_X11_195 ok_X11_reads (show shp 276 = _ from rfl) ⟨_, _, rfl⟩ (by decide) trivial (by decide) (Nat.le_of_ble_eq_true rfl) rfl (m_reads (e := 0) (okB_w (okB_w (okB_w hB (by decide)) (by decide)) (by decide)) (by rw [wr_ni (by decide), wr_ni (by decide), wr_s]; rfl) (by omega) ?_)
  refine go_return (y := mX11_starts) (pc := 19) dX11_starts_19 rfl ?_
  have h := rom_rd (f := f) (L := L) (e := 0) (c := 0) (p := -1) (okB_w (okB_w (okB_w hB (show (12 : Nat) ≠ 9 by decide) (v := 0)) (show (16 : Nat) ≠ 9 by decide) (v := 0)) (show (17 : Nat) ≠ 9 by decide) (v := -1)) (by rw [wr_ni (by decide), wr_s]) (by rw [wr_s]) (by omega)
  exact K _ h.1 (smo_t h.2 (smo_t (smo_w (by decide)) (smo_t (smo_w (by decide)) (smo_w (by decide)))))
set_option maxRecDepth 8000 in
set_option maxHeartbeats 4000000 in
theorem m_isSign {c : Int} (hc : c = 59 ∨ c = 40 ∨ c = 41) (hr : rom f L s σ) {Q : Option Value → Mem → Prop} {X : String → Mem → Prop} (K : ∀ v, v = bI (s.2.1 = 0 ∧ tkK f s.1 = 3 ∧ f (s.1 : Nat) = c) → v = 0 ∨ v = 1 → Q (some (.int (iI v))) (md σ ν μ)) : mt 289 1 0 0 mX11_isSign [.ref 276, .int (iI c)] Q X (md σ ν μ) := by
  show go 289 1 0 0 mX11_isSign Q X 0 [.ref 276, .int (iI c)] [] _
  obtain ⟨h0, h1, h2, h3, h4, h5, h6, h7⟩ := hr
  have hL7 := h0.2.1
  have kb : 0 ≤ tkK f s.1 ∧ tkK f s.1 ≤ 4 := kd_b _
  have ht : tkT f s.1 = 3 ↔ (tkK f s.1 = 3 ∧ (f (s.1 : Nat) = 59 ∨ f (s.1 : Nat) = 40 ∨ f (s.1 : Nat) = 41)) := by
    unfold tkT
    by_cases g : tkK f s.1 = 3
    · rw [if_pos g]
      split <;> omega
    · rw [if_neg g]
      omega
  have tb : 0 ≤ tkT f s.1 ∧ tkT f s.1 ≤ 4 := by
    unfold tkT
    (repeat' split) <;> omega
  refine go_aload_n (y := mX11_isSign) (pc := 0) dX11_isSign_0 rfl rfl ?_
  refine go_mget (y := mX11_isSign) (pc := 1) dX11_isSign_1 fl_X11_189 rfl rfl (by decide) (fun r1 => ?_)
  refine go_top (b := s.2.1) (h4) (fun t1 => ?_)
  refine go_if_ne (y := mX11_isSign) (pc := 4) (tgt := 31) dX11_isSign_4 (by decide) (by omega) (fun g4 => ?_) (fun g4 => ?_)
  · skip
    refine go_iconst (y := mX11_isSign) (pc := 31) dX11_isSign_31 ?_
    refine go_zreturn (y := mX11_isSign) (pc := 32) dX11_isSign_32 rfl (by omega) ?_
    exact K 0 (bI_f (fun w => g4 w.1)).symm (by omega)
  · skip
    refine go_aload_n (y := mX11_isSign) (pc := 7) dX11_isSign_7 rfl rfl ?_
    refine go_mget (y := mX11_isSign) (pc := 8) dX11_isSign_8 fl_X11_183 rfl rfl (by decide) (fun r8 => ?_)
    refine go_top (b := tkT f s.1) (h2) (fun t8 => ?_)
    refine go_iconst (y := mX11_isSign) (pc := 11) dX11_isSign_11 ?_
    refine go_icmp_ne (y := mX11_isSign) (pc := 12) (tgt := 31) dX11_isSign_12 (by decide) (by omega) (by omega) (fun h12 => ?_) (fun h12 => ?_)
    · skip
      refine go_iconst (y := mX11_isSign) (pc := 31) dX11_isSign_31 ?_
      refine go_zreturn (y := mX11_isSign) (pc := 32) dX11_isSign_32 rfl (by omega) ?_
      exact K 0 (bI_f (fun w => h12 (ht.mpr ⟨w.2.1, by omega⟩))).symm (by omega)
    · skip
      have g3 := ht.mp h12
      have gl : s.1 < L := by
        by_cases g : s.1 < L
        · exact g
        · have e : s.1 = L := by omega
          have h9 := h0.2.2.2
          rw [← e] at h9
          omega
      refine go_aload_n (y := mX11_isSign) (pc := 15) dX11_isSign_15 rfl rfl ?_
      refine go_aload_n (y := mX11_isSign) (pc := 16) dX11_isSign_16 rfl rfl ?_
      refine go_mget (y := mX11_isSign) (pc := 17) dX11_isSign_17 fl_X11_180 rfl rfl (by decide) (fun r17 => ?_)
      refine go_top (b := ((s.1 : Nat) : Int)) (h1) (fun t17 => ?_)
      refine go_callV1 (y := mX11_isSign) (pc := 20) (y' := mX11_seen) (kc2 := 0) (ks2 := 0) dX11_isSign_20 ml_X11_177 ok_X11_seen (show shp 276 = _ from rfl) ⟨_, _, rfl⟩ (by decide) rfl (by decide) (Nat.le_of_ble_eq_true rfl) rfl (m_seen h0 h7 (fun v20 e20 b20 => ?_))
      refine go_iload_n (y := mX11_isSign) (pc := 23) dX11_isSign_23 rfl rfl ?_
      refine go_icmp_ne (y := mX11_isSign) (pc := 24) (tgt := 31) dX11_isSign_24 (by decide) (by omega) (by omega) (fun h24 => ?_) (fun h24 => ?_)
      · skip
        rw [if_pos gl] at e20
        refine go_iconst (y := mX11_isSign) (pc := 31) dX11_isSign_31 ?_
        refine go_zreturn (y := mX11_isSign) (pc := 32) dX11_isSign_32 rfl (by omega) ?_
        exact K 0 (bI_f (by omega)).symm (by omega)
      · skip
        rw [if_pos gl] at e20
        refine go_iconst (y := mX11_isSign) (pc := 27) dX11_isSign_27 ?_
        refine go_goto (y := mX11_isSign) (pc := 28) (tgt := 32) dX11_isSign_28 (by decide) ?_
        refine go_zreturn (y := mX11_isSign) (pc := 32) dX11_isSign_32 rfl (by omega) ?_
        exact K 1 (bI_t (by omega)).symm (by omega)
set_option maxRecDepth 8000 in
set_option maxHeartbeats 4000000 in
theorem m_takesSign {c : Int} (hc : c = 59 ∨ c = 40 ∨ c = 41) (hr : rom f L s σ) {Q : Option Value → Mem → Prop} {X : String → Mem → Prop} (K : ∀ σ', rom f L (gon f L (mus s (tkK f s.1 = 3 ∧ f (s.1 : Nat) = c) 1)) σ' → smo σ' σ → Q none (md σ' ν μ)) : mt 289 3 0 0 mX11_takesSign [.ref 276, .int (iI c)] Q X (md σ ν μ) := by
  show go 289 3 0 0 mX11_takesSign Q X 0 [.ref 276, .int (iI c)] [] _
  refine go_aload_n (y := mX11_takesSign) (pc := 0) dX11_takesSign_0 rfl rfl ?_
  refine go_aload_n (y := mX11_takesSign) (pc := 1) dX11_takesSign_1 rfl rfl ?_
  refine go_iload_n (y := mX11_takesSign) (pc := 2) dX11_takesSign_2 rfl rfl ?_
  refine go_callV1 (y := mX11_takesSign) (pc := 3) (y' := mX11_isSign) (kc2 := 0) (ks2 := 0) dX11_takesSign_3 ml_X11_202 ok_X11_isSign (show shp 276 = _ from rfl) ⟨_, _, rfl⟩ (by decide) rfl (by decide) (Nat.le_of_ble_eq_true rfl) rfl (m_isSign (by omega) hr (fun v3 e3 b3 => ?_))
  refine go_iconst (y := mX11_takesSign) (pc := 6) dX11_takesSign_6 ?_
  refine go_callV2 (y := mX11_takesSign) (pc := 7) (y' := mX11_must) (kc2 := 0) (ks2 := 0) dX11_takesSign_7 ml_X11_205 ok_X11_must (show shp 276 = _ from rfl) ⟨_, _, rfl⟩ (by decide) ⟨rfl, rfl⟩ (by decide) (Nat.le_of_ble_eq_true rfl) rfl (m_must e3 (by decide) hr (fun σ7 v7 e7 w7 b7 c7 => ?_))
  refine go_pop (y := mX11_takesSign) (pc := 10) dX11_takesSign_10 rfl ?_
  refine go_aload_n (y := mX11_takesSign) (pc := 11) dX11_takesSign_11 rfl rfl ?_
  refine go_callV0 (y := mX11_takesSign) (pc := 12) (y' := mX11_goesOn) (kc2 := 0) (ks2 := 0) dX11_takesSign_12 ml_X11_208 ok_X11_goesOn (show shp 276 = _ from rfl) ⟨_, _, rfl⟩ (by decide) trivial (by decide) (Nat.le_of_ble_eq_true rfl) rfl (m_goesOn e7 (fun σ12 e12 w12 => ?_))
  refine go_return (y := mX11_takesSign) (pc := 15) dX11_takesSign_15 rfl ?_
  have em : mus s (s.2.1 = 0 ∧ tkK f s.1 = 3 ∧ f (s.1 : Nat) = c) 1 = mus s (tkK f s.1 = 3 ∧ f (s.1 : Nat) = c) 1 := by
    by_cases g : s.2.1 = 0
    · exact mus_e ⟨fun w => w.2, fun w => ⟨g, w⟩⟩
    · rw [mus_c g, mus_c g]
  rw [em] at e12
  exact K _ e12 (smo_t w12 w7)
end MReader
