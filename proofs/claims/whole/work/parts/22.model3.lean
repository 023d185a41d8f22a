/-! THE MODEL: speeches, minutes, votes -/
theorem sdm_m {d : Int} : (if sdm d = 1 then (1 : Int) else 0) = sdm d := by unfold sdm; (repeat' split) <;> omega
theorem wf_n {S : Mem} (hS : wfS S) : 1 ≤ S 0 7 ∧ S 0 7 ≤ 12 ∧ 1 ≤ S 0 0 ∧ S 0 0 ≤ 4 := ⟨hS.2.2.2.2.2.2.2.2.2.2.2.2.2.2.1, hS.2.2.2.2.2.2.2.2.2.2.2.2.2.2.2.1, hS.1, hS.2.1⟩
theorem wf_m {S : Mem} (hS : wfS S) : ∀ m : Nat, (m : Int) < S 0 7 → 1 ≤ S 2 m ∧ S 2 m ≤ 9 ∧ 0 ≤ S 3 m ∧ S 3 m ≤ 20 ∧ 0 ≤ S 4 m ∧ S 4 m ≤ 99 := hS.2.2.2.2.2.2.2.2.2.2.2.2.2.2.2.2
theorem wf_r {S s : Mem} (hS : wfS S) (hC : wfC S s) : 0 ≤ s 5 0 ∧ s 5 0 ≤ 16 ∧ 0 ≤ s 11 0 ∧ s 11 0 ≤ 12 := by
  have := wf_n hS
  have := hC.1
  omega
theorem rel_spk {S s : Mem} {ν : Nat → Int} {h p m q : Nat} (hr : rel S s ν) (hS : wfS S) (hC : wfC S s) (hh : (h : Int) < S 0 0) (hp : (p : Int) < s 11 0) (hm : s 12 p = m) (hq : s 13 p = q) (ho : s 16 h = -1) :
    rel S (spk S s h p) (dpv (wv (wv (wv (wv (wv (wv (wv ν (362 + 5 * h + 0) m) (362 + 5 * h + 1) q) (362 + 5 * h + 2) (sdm (s 14 p))) (362 + 5 * h + 3) (S 0 2)) (362 + 5 * h + 4) 0) (18 + 6 * m + 5) (wp (s 4 m + 1))) (90 + 5 * q + 4) (sdm (s 14 p))) p) := by
  obtain ⟨n1, n12, c1, c4⟩ := wf_n hS
  obtain ⟨q0, q16, r0, r12⟩ := wf_r hS hC
  have hd := hC.2.2.2.1 p hp
  have em : (s 12 p).toNat = m := by omega
  have eq : (s 13 p).toNat = q := by omega
  have s4 : ∀ j, spk S s h p 4 j = if j = m then wp (s 4 m + 1) else s 4 j := by
    intro j
    unfold spk
    rw [em]
    by_cases g : j = m
    · subst g
      rw [wr_s, if_pos rfl, wr_na (by decide), wr_na (by decide), wr_na (by decide), wr_na (by decide), wr_na (by decide), rmv_o (by decide)]
    · rw [wr_ni g, if_neg g, wr_na (by decide), wr_na (by decide), wr_na (by decide), wr_na (by decide), wr_na (by decide), rmv_o (by decide)]
  generalize hν : wv (wv (wv (wv (wv (wv (wv ν (362 + 5 * h + 0) m) (362 + 5 * h + 1) q) (362 + 5 * h + 2) (sdm (s 14 p))) (362 + 5 * h + 3) (S 0 2)) (362 + 5 * h + 4) 0) (18 + 6 * m + 5) (wp (s 4 m + 1))) (90 + 5 * q + 4) (sdm (s 14 p)) = ν1
  have hν' : ∀ j, ν1 j = wv (wv (wv (wv (wv (wv (wv ν (362 + 5 * h + 0) m) (362 + 5 * h + 1) q) (362 + 5 * h + 2) (sdm (s 14 p))) (362 + 5 * h + 3) (S 0 2)) (362 + 5 * h + 4) 0) (18 + 6 * m + 5) (wp (s 4 m + 1))) (90 + 5 * q + 4) (sdm (s 14 p)) j := fun j => by rw [hν]
  have far : ∀ j, j ≠ 18 + 6 * m + 5 → j ≠ 90 + 5 * q + 4 → (j < 362 + 5 * h ∨ 362 + 5 * h + 4 < j) → ν1 j = ν j := fun j g1 g2 g3 => by
    rw [hν', wv_n g2, wv_n g1, wv_n (by omega), wv_n (by omega), wv_n (by omega), wv_n (by omega), wv_n (by omega)]
  have lo : ∀ j, j ≠ 11 → j < 382 → dpv ν1 p j = ν1 j := fun j g1 g2 => by rw [dpv_lo g2, if_neg g1]
  have e11 : ν1 11 = s 11 0 := (far 11 (by omega) (by omega) (by omega)).trans (rs11 hr)
  have d11 : dpv ν1 p 11 = s 11 0 - 1 := by rw [dpv_lo (by decide), if_pos rfl, e11]
  have sc : ∀ j, j ≠ 11 → j < 18 → dpv ν1 p j = ν j := fun j g1 g2 => (lo j g1 (by omega)).trans (far j (by omega) (by omega) (by omega))
  have o5 : spk S s h p 5 0 = s 5 0 := spk_o (by decide)
  have o11 : spk S s h p 11 0 = s 11 0 - 1 := by rw [spk_r (by decide), rmv_11]
  have o0 : ∀ j, spk S s h p 0 j = s 0 j := fun j => spk_o (by decide)
  refine ⟨⟨?_, ?_, ?_, ?_, ?_, ?_, ?_, ?_, ?_⟩, ⟨?_, ?_, ?_, ?_, ?_, ?_, ?_, ?_⟩, fun i hi => ?_, fun i hi => ?_, fun i hi => ?_, fun i hi => ?_⟩
  · rw [sc 0 (by decide) (by decide)]; exact rs0 hr
  · rw [sc 1 (by decide) (by decide)]; exact rs1 hr
  · rw [sc 2 (by decide) (by decide)]; exact rs2 hr
  · rw [sc 3 (by decide) (by decide)]; exact rs3 hr
  · rw [sc 4 (by decide) (by decide)]; exact rs4 hr
  · rw [sc 5 (by decide) (by decide)]; exact rs5 hr
  · rw [sc 6 (by decide) (by decide)]; exact rs6 hr
  · rw [sc 8 (by decide) (by decide)]; exact rs8 hr
  · rw [sc 16 (by decide) (by decide)]; exact rs16 hr
  · rw [sc 7 (by decide) (by decide), o0]; exact rs7 hr
  · rw [sc 9 (by decide) (by decide), o5]; exact rs9 hr
  · rw [sc 10 (by decide) (by decide), o0]; exact rs10 hr
  · rw [d11, o11]
  · rw [sc 12 (by decide) (by decide), o0]; exact rs12 hr
  · rw [sc 13 (by decide) (by decide), o0]; exact rs13 hr
  · rw [sc 14 (by decide) (by decide), o0]; exact rs14 hr
  · rw [sc 15 (by decide) (by decide), o0]; exact rs15 hr
  · have u : ∀ w, w < 5 → dpv ν1 p (18 + 6 * i + w) = ν (18 + 6 * i + w) := fun w hw => (lo _ (by omega) (by omega)).trans (far _ (by omega) (by omega) (by omega))
    rw [u 0 (by decide), u 1 (by decide), u 2 (by decide), u 3 (by decide), u 4 (by decide), spk_o (r := 2) (by decide), spk_o (r := 3) (by decide), s4, lo _ (by omega) (by omega)]
    refine ⟨rlN hr hi, rlW hr hi, rlP hr hi, rlC hr hi, rlR hr hi, ?_⟩
    by_cases g : i = m
    · subst g
      rw [if_pos rfl, hν', wv_n (by omega), wv_s]
    · rw [if_neg g, far _ (by omega) (by omega) (by omega)]; exact rlT hr hi
  · rw [o5] at hi
    have u : ∀ w, w < 4 → dpv ν1 p (90 + 5 * i + w) = ν (90 + 5 * i + w) := fun w hw => (lo _ (by omega) (by omega)).trans (far _ (by omega) (by omega) (by omega))
    refine ⟨?_, fun x hx => ?_⟩
    · rw [u 0 (by decide), u 2 (by decide), u 3 (by decide), spk_o (r := 6) (by decide), spk_o (r := 8) (by decide), spk_o (r := 7) (by decide), spk_9, eq, lo _ (by omega) (by omega)]
      refine ⟨rqP hr hi, rqL hr hi, rqS hr hi, ?_⟩
      by_cases g : i = q
      · subst g
        rw [if_pos rfl, hν', wv_s, lat_s hd.2.2.2.2]
      · rw [if_neg g, far _ (by omega) (by omega) (by omega)]; exact rqT hr hi
    · have l : ln (spk S s h p) x i = ln s x i := spk_o (by decide)
      rw [l, lo _ (by omega) (by omega), far _ (by omega) (by omega) (by omega)]
      exact rqN hr hi hx
  · rw [spk_h (r := 16) (by decide), spk_h (r := 17) (by decide), spk_h (r := 18) (by decide), spk_h (r := 19) (by decide), spk_o (r := 20) (by decide), em, eq]
    rw [lo _ (by omega) (by omega), lo _ (by omega) (by omega), lo _ (by omega) (by omega), lo _ (by omega) (by omega), lo _ (by omega) (by omega)]
    by_cases g : i = h
    · subst g
      rw [if_pos rfl, if_pos rfl, if_pos rfl, if_pos rfl, if_pos rfl, if_neg (by decide), if_pos rfl, if_neg (by decide), if_neg (by decide), if_pos rfl, if_neg (by decide), if_neg (by decide), if_neg (by decide)]
      have hf := hC.2.2.2.2.2 i (by omega)
      have k0 : ν1 (362 + 5 * i + 0) = m := by rw [hν', wv_n (by omega), wv_n (by omega), wv_n (by omega), wv_n (by omega), wv_n (by omega), wv_n (by omega), wv_s]
      have k1 : ν1 (362 + 5 * i + 1) = q := by rw [hν', wv_n (by omega), wv_n (by omega), wv_n (by omega), wv_n (by omega), wv_n (by omega), wv_s]
      have k2 : ν1 (362 + 5 * i + 2) = sdm (s 14 p) := by rw [hν', wv_n (by omega), wv_n (by omega), wv_n (by omega), wv_n (by omega), wv_s]
      have k3 : ν1 (362 + 5 * i + 3) = S 0 2 := by rw [hν', wv_n (by omega), wv_n (by omega), wv_n (by omega), wv_s]
      have k4 : ν1 (362 + 5 * i + 4) = 0 := by rw [hν', wv_n (by omega), wv_n (by omega), wv_s]
      exact ⟨k0, fun _ => ⟨k1, k2, k3, by rw [k4]; omega⟩⟩
    · rw [if_neg g, if_neg g, if_neg g, if_neg g, far _ (by omega) (by omega) (by omega), far _ (by omega) (by omega) (by omega), far _ (by omega) (by omega) (by omega), far _ (by omega) (by omega) (by omega), far _ (by omega) (by omega) (by omega)]
      exact hr.2.2.2.2.1 i hi
  · rw [o11] at hi
    rw [spk_r (r := 12) (by decide), spk_r (r := 13) (by decide), spk_r (r := 14) (by decide), rmv_c (r := 12) (by decide) (by omega), rmv_c (r := 13) (by decide) (by omega), rmv_c (r := 14) (by decide) (by omega), dpv_hi (by decide) (by omega), dpv_hi (by decide) (by omega), dpv_hi (by decide) (by omega)]
    by_cases g : p ≤ i
    · rw [if_pos g, if_pos g, if_pos g, if_pos g, if_pos g, if_pos g, far _ (by omega) (by omega) (by omega), far _ (by omega) (by omega) (by omega), far _ (by omega) (by omega) (by omega)]
      exact hr.2.2.2.2.2 (i + 1) (by omega)
    · rw [if_neg g, if_neg g, if_neg g, if_neg g, if_neg g, if_neg g, far _ (by omega) (by omega) (by omega), far _ (by omega) (by omega) (by omega), far _ (by omega) (by omega) (by omega)]
      exact hr.2.2.2.2.2 i (by omega)
theorem rel_sln2 {S s : Mem} {ν : Nat → Int} {m q : Nat} {v : Int} (hS : wfS S) (hC : wfC S s) (hm : (m : Int) < S 0 7) (hq : (q : Int) < s 5 0) (hr : rel S s ν) : rel S (sln s m q v) (wv ν (170 + 16 * m + q) (clp v)) :=
  rel_sln hm hq hr (wf_n hS).2.1 (wf_n hS).2.2.2 (wf_r hS hC).2.1 (wf_r hS hC).2.2.2
set_option maxRecDepth 8000 in
set_option maxHeartbeats 4000000 in
theorem m_leansBy {σ μ : Mem} {ν : Nat → Int} {m q : Nat} {b : Int} (hm : m < 12) (hq : q < 16) (hb : -2 ≤ b ∧ b ≤ 2) (hν : -20 ≤ ν (170 + 16 * m + q) ∧ ν (170 + 16 * m + q) ≤ 20) {Q : Option Value → Mem → Prop} {X : String → Mem → Prop} (K : Q none (md σ (wv ν (170 + 16 * m + q) (clp (ν (170 + 16 * m + q) + b))) μ)) : mt 289 1 0 0 mX11_leansBy [.ref 276, .int (iI (m : Nat)), .int (iI (q : Nat)), .int (iI b)] Q X (md σ ν μ) := by
  show go 289 1 0 0 mX11_leansBy Q X 0 [.ref 276, .int (iI (m : Nat)), .int (iI (q : Nat)), .int (iI b)] [] _
  refine go_aload_n (y := mX11_leansBy) (pc := 0) dX11_leansBy_0 rfl rfl ?_
  refine go_mref (y := mX11_leansBy) (pc := 1) dX11_leansBy_1 fl_X11_7 rfl rfl (by decide) ?_
  refine go_sipush (y := mX11_leansBy) (pc := 4) dX11_leansBy_4 (by decide) ?_
  refine go_bipush (y := mX11_leansBy) (pc := 7) dX11_leansBy_7 (by decide) ?_
  refine go_iload_n (y := mX11_leansBy) (pc := 9) dX11_leansBy_9 rfl rfl ?_
  refine go_imul (y := mX11_leansBy) (pc := 10) dX11_leansBy_10 ?_
  refine go_iadd (y := mX11_leansBy) (pc := 11) dX11_leansBy_11 ?_
  refine go_iload_n (y := mX11_leansBy) (pc := 12) dX11_leansBy_12 rfl rfl ?_
  refine go_iadd (y := mX11_leansBy) (pc := 13) dX11_leansBy_13 ?_
  refine go_bipush (y := mX11_leansBy) (pc := 14) dX11_leansBy_14 (by decide) ?_
  refine go_bipush (y := mX11_leansBy) (pc := 16) dX11_leansBy_16 (by decide) ?_
  refine go_aload_n (y := mX11_leansBy) (pc := 18) dX11_leansBy_18 rfl rfl ?_
  refine go_iload_n (y := mX11_leansBy) (pc := 19) dX11_leansBy_19 rfl rfl ?_
  refine go_iload_n (y := mX11_leansBy) (pc := 20) dX11_leansBy_20 rfl rfl ?_
  refine go_callV2 (y := mX11_leansBy) (pc := 21) (y' := mX11_leans) (kc2 := 0) (ks2 := 0) dX11_leansBy_21 ml_X11_114 ok_X11_leans (show shp 276 = _ from rfl) ⟨_, _, rfl⟩ (by decide) ⟨rfl, rfl⟩ (by decide) (Nat.le_of_ble_eq_true rfl) rfl (m_leans (m := m) (q := q) (by omega) (by omega) (fun v21 e21 r21 => ?_))
  subst e21
  refine go_iload_n (y := mX11_leansBy) (pc := 24) dX11_leansBy_24 rfl rfl ?_
  refine go_iadd (y := mX11_leansBy) (pc := 25) dX11_leansBy_25 ?_
  refine go_mmin (y := mX11_leansBy) (pc := 26) dX11_leansBy_26 ml_X11_117 (by decide) (Nat.le_of_ble_eq_true rfl) (by omega) (by omega) ?_
  refine go_mmax (y := mX11_leansBy) (pc := 29) dX11_leansBy_29 ml_X11_122 (by decide) (Nat.le_of_ble_eq_true rfl) (by omega) (by omega) ?_
  refine go_top (b := clp (ν (170 + 16 * m + q) + b)) (by unfold clp; omega) (fun t29 => ?_)
  refine go_nias (y := mX11_leansBy) (pc := 32) (k := ((170 + (16 * m)) + q)) dX11_leansBy_32 (by decide) (by omega) (by omega) (by have := clp_b (ν (170 + 16 * m + q) + b); omega) ?_
  refine go_return (y := mX11_leansBy) (pc := 33) dX11_leansBy_33 rfl ?_
  exact K
section MReads3
variable {S s σ μ : Mem} {ν : Nat → Int}
set_option maxRecDepth 8000 in
set_option maxHeartbeats 4000000 in
theorem m_ends {h sp q : Nat} (hh : (h : Int) < S 0 0) (hS : wfS S) (hr : rel S s ν) (q16 : s 5 0 ≤ 16) (r12 : s 11 0 ≤ 12) (hsp : s 16 h = sp) (hsp2 : (sp : Int) < S 0 7) (hq : s 17 h = q) (hq2 : (q : Int) < s 5 0) (hd : s 18 h = 1 ∨ s 18 h = -1) (hb : 0 ≤ s 20 h ∧ s 20 h ≤ 1) (h8 : 0 ≤ s 8 q ∧ s 8 q ≤ 9) (hl : ∀ m : Nat, (m : Int) < S 0 7 → -20 ≤ ln s m q ∧ ln s m q ≤ 20) {Q : Option Value → Mem → Prop} {X : String → Mem → Prop} (K : ∀ ν', rel S (esp S s h) ν' → ν' 17 = wp (ν 17 + 1) → Q none (md σ ν' μ)) : mt 289 2 0 0 mX11_ends [.ref 276, .int (iI (h : Nat))] Q X (md σ ν μ) := by
  show go 289 2 0 0 mX11_ends Q X 0 [.ref 276, .int (iI (h : Nat)), .null, .null, .null, .null] [] _
  obtain ⟨n1, n12, c1, c4⟩ := wf_n hS
  have hmem := wf_m hS
  have ho : s 16 h ≠ -1 := by omega
  have es : (s 16 h).toNat = sp := by omega
  have eq : (s 17 h).toNat = q := by omega
  unfold esp at K
  rw [es, eq] at K
  have J29 : ∀ b : Int, (b = if 0 < s 20 h then 1 else 2) → (b = 1 ∨ b = 2) → go 289 2 0 0 mX11_ends Q X 29 [.ref 276, .int (iI (h : Nat)), .int (iI (sp : Nat)), .int (iI (q : Nat)), .null, .null] [.int (iI b)] (md σ ν μ) := by
    intro b hb gb
    rw [← hb] at K
    have hch : -2 ≤ s 18 h * b ∧ s 18 h * b ≤ 2 := by rcases hd with e | e <;> rw [e] <;> omega
    have loop : ∀ (n k : Nat) (ν1 : Nat → Int), (k : Int) + n = S 0 7 → rel S (esk S s sp q (s 18 h * b) k) ν1 → ν1 17 = ν 17 → go 289 2 0 0 mX11_ends Q X 34 [.ref 276, .int (iI (h : Nat)), .int (iI (sp : Nat)), .int (iI (q : Nat)), .int (iI b), .int (iI (k : Nat))] [] (md σ ν1 μ) := by
      intro n
      induction n using Nat.strongRecOn with
      | _ n ih =>
        intro k ν1 hk hr1 h17
        have ih' := ih (n - 1)
        have ox : ∀ r j, r ≠ 10 → esk S s sp q (s 18 h * b) k r j = s r j := fun r j g => esk_o g k
        have ho1 : esk S s sp q (s 18 h * b) k 16 h ≠ -1 := by rw [ox 16 h (by decide)]; exact ho
        have o5 := ox 5 0 (by decide)
        have o11 := ox 11 0 (by decide)
        have l8 : ν1 (90 + 5 * q + 2) = s 8 q := (rqL hr1 (by rw [o5]; exact hq2)).trans (ox 8 q (by decide))
        refine go_iload (y := mX11_ends) (pc := 34) dX11_ends_34 rfl ?_
        refine go_aload_n (y := mX11_ends) (pc := 36) dX11_ends_36 rfl rfl ?_
        refine go_mref (y := mX11_ends) (pc := 37) dX11_ends_37 fl_X11_7 rfl rfl (by decide) ?_
        refine go_bipush (y := mX11_ends) (pc := 40) dX11_ends_40 (by decide) ?_
        refine go_nial (y := mX11_ends) (pc := 42) (k := 8) dX11_ends_42 (by decide) rfl (by omega) (fun r42 => ?_)
        refine go_top (b := S 0 7) (rs8 hr1) (fun t42 => ?_)
        refine go_icmp_ge (y := mX11_ends) (pc := 43) (tgt := 109) dX11_ends_43 (by decide) (by omega) (by omega) (fun h43 => ?_) (fun h43 => ?_)
        · skip
          refine go_aload_n (y := mX11_ends) (pc := 109) dX11_ends_109 rfl rfl ?_
          refine go_iload_n (y := mX11_ends) (pc := 110) dX11_ends_110 rfl rfl ?_
          refine go_iconst (y := mX11_ends) (pc := 111) dX11_ends_111 ?_
          refine go_bipush (y := mX11_ends) (pc := 112) dX11_ends_112 (by decide) ?_
          refine go_aload_n (y := mX11_ends) (pc := 114) dX11_ends_114 rfl rfl ?_
          refine go_iload_n (y := mX11_ends) (pc := 115) dX11_ends_115 rfl rfl ?_
          refine go_iconst (y := mX11_ends) (pc := 116) dX11_ends_116 ?_
          refine go_callV2 (y := mX11_ends) (pc := 117) (y' := mX11_ofM) (kc2 := 0) (ks2 := 0) dX11_ends_117 ml_X11_90 ok_X11_ofM (show shp 276 = _ from rfl) ⟨_, _, rfl⟩ (by decide) ⟨rfl, rfl⟩ (by decide) (Nat.le_of_ble_eq_true rfl) rfl (m_ofM (q := q) (w := 2) (by omega) (by decide) (fun v117 e117 r117 => ?_))
          refine go_top (b := s 8 q) (e117.trans l8) (fun t117 => ?_)
          refine go_iconst (y := mX11_ends) (pc := 120) dX11_ends_120 ?_
          refine go_iadd (y := mX11_ends) (pc := 121) dX11_ends_121 ?_
          refine go_mmin (y := mX11_ends) (pc := 122) dX11_ends_122 ml_X11_117 (by decide) (Nat.le_of_ble_eq_true rfl) (by omega) (by omega) ?_
          refine go_callV3 (y := mX11_ends) (pc := 125) (y' := mX11_putM) (kc2 := 0) (ks2 := 0) dX11_ends_125 ml_X11_132 ok_X11_putM (show shp 276 = _ from rfl) ⟨_, _, rfl⟩ (by decide) ⟨rfl, rfl, rfl⟩ (by decide) (Nat.le_of_ble_eq_true rfl) rfl (m_putM (q := q) (w := 2) (by omega) (by decide) (by omega) ?_)
          refine go_aload_n (y := mX11_ends) (pc := 128) dX11_ends_128 rfl rfl ?_
          refine go_iload_n (y := mX11_ends) (pc := 129) dX11_ends_129 rfl rfl ?_
          refine go_iconst (y := mX11_ends) (pc := 130) dX11_ends_130 ?_
          refine go_iconst (y := mX11_ends) (pc := 131) dX11_ends_131 ?_
          refine go_callV3 (y := mX11_ends) (pc := 132) (y' := mX11_putC) (kc2 := 0) (ks2 := 0) dX11_ends_132 ml_X11_79 ok_X11_putC (show shp 276 = _ from rfl) ⟨_, _, rfl⟩ (by decide) ⟨rfl, rfl, rfl⟩ (by decide) (Nat.le_of_ble_eq_true rfl) rfl (m_putC (h := h) (w := 0) (by omega) (by decide) (by omega) ?_)
          refine go_aload_n (y := mX11_ends) (pc := 135) dX11_ends_135 rfl rfl ?_
          refine go_mref (y := mX11_ends) (pc := 136) dX11_ends_136 fl_X11_7 rfl rfl (by decide) ?_
          refine go_bipush (y := mX11_ends) (pc := 139) dX11_ends_139 (by decide) ?_
          refine go_dup2 (y := mX11_ends) (pc := 141) dX11_ends_141 rfl rfl ?_
          refine go_nial (y := mX11_ends) (pc := 142) (k := 17) dX11_ends_142 (by decide) rfl (by omega) (fun r142 => ?_)
          refine go_top (b := ν 17) (((wv_n (by omega)).trans (wv_n (by omega))).trans h17) (fun t142 => ?_)
          refine go_iconst (y := mX11_ends) (pc := 143) dX11_ends_143 ?_
          refine go_iadd (y := mX11_ends) (pc := 144) dX11_ends_144 ?_
          refine go_niasW (y := mX11_ends) (pc := 145) (k := 17) dX11_ends_145 (by decide) rfl (by omega)  ?_
          refine go_return (y := mX11_ends) (pc := 146) dX11_ends_146 rfl ?_
          have e : k = (S 0 7).toNat := by omega
          subst e
          refine K _ ?_ wv_s
          have x1 := rel_lath (q := q) (v := min (s 8 q + 1) 9) (by rw [o5]; exact hq2) hr1 n12 c4 (by rw [o5]; exact q16) (by rw [o11]; exact r12)
          have x2 := rel_lve (h := h) hh x1 n12 c4 (by rw [wr_na (by decide), o5]; exact q16) (by rw [wr_na (by decide), o11]; exact r12)
          have x3 := rel_end (v := wp (ν 17 + 1)) x2 n12 c4 (by unfold lve; rw [wr_na (by decide), wr_na (by decide), wr_na (by decide), wr_na (by decide), o5]; exact q16) (by unfold lve; rw [wr_na (by decide), wr_na (by decide), wr_na (by decide), wr_na (by decide), o11]; exact r12)
          show rel S (lve (wr (esk S s sp q (s 18 h * b) (S 0 7).toNat) 8 q (min (esk S s sp q (s 18 h * b) (S 0 7).toNat 8 q + 1) 9)) h) _
          rw [ox 8 q (by decide), show min (s 8 q + 1) 9 = min 9 (s 8 q + 1) from Int.min_comm _ _]
          rw [show min (s 8 q + 1) 9 = min 9 (s 8 q + 1) from Int.min_comm _ _] at x3
          exact x3
        · skip
          have w1 := hmem k (by omega)
          have w2 := hmem sp (by omega)
          refine go_iload (y := mX11_ends) (pc := 46) dX11_ends_46 rfl ?_
          refine go_iload_n (y := mX11_ends) (pc := 48) dX11_ends_48 rfl rfl ?_
          refine go_icmp_eq (y := mX11_ends) (pc := 49) (tgt := 103) dX11_ends_49 (by decide) (by omega) (by omega) (fun h49 => ?_) (fun h49 => ?_)
          · skip
            refine go_iinc (y := mX11_ends) (pc := 103) dX11_ends_103 rfl (by decide) ?_
            refine go_goto (y := mX11_ends) (pc := 106) (tgt := 34) dX11_ends_106 (by decide) ?_
            refine ih' (by omega) (k + 1) ν1 (by omega) ?_ h17
            rw [esk, if_neg (fun w => w.1 (by omega))]
            exact hr1
          · skip
            refine go_aload_n (y := mX11_ends) (pc := 52) dX11_ends_52 rfl rfl ?_
            refine go_iload (y := mX11_ends) (pc := 53) dX11_ends_53 rfl ?_
            refine go_iconst (y := mX11_ends) (pc := 55) dX11_ends_55 ?_
            refine go_callV2 (y := mX11_ends) (pc := 56) (y' := mX11_of) (kc2 := 0) (ks2 := 0) dX11_ends_56 ml_X11_100 ok_X11_of (show shp 276 = _ from rfl) ⟨_, _, rfl⟩ (by decide) ⟨rfl, rfl⟩ (by decide) (Nat.le_of_ble_eq_true rfl) rfl (m_of (m := k) (w := 2) (by omega) (by decide) (fun v56 e56 r56 => ?_))
            refine go_top (b := S 3 k) (e56.trans (rlP hr1 (by omega))) (fun t56 => ?_)
            refine go_aload_n (y := mX11_ends) (pc := 59) dX11_ends_59 rfl rfl ?_
            refine go_iload_n (y := mX11_ends) (pc := 60) dX11_ends_60 rfl rfl ?_
            refine go_iconst (y := mX11_ends) (pc := 61) dX11_ends_61 ?_
            refine go_callV2 (y := mX11_ends) (pc := 62) (y' := mX11_of) (kc2 := 0) (ks2 := 0) dX11_ends_62 ml_X11_100 ok_X11_of (show shp 276 = _ from rfl) ⟨_, _, rfl⟩ (by decide) ⟨rfl, rfl⟩ (by decide) (Nat.le_of_ble_eq_true rfl) rfl (m_of (m := sp) (w := 2) (by omega) (by decide) (fun v62 e62 r62 => ?_))
            refine go_top (b := S 3 sp) (e62.trans (rlP hr1 (by omega))) (fun t62 => ?_)
            refine go_isub (y := mX11_ends) (pc := 65) dX11_ends_65 ?_
            refine go_mabs (y := mX11_ends) (pc := 66) dX11_ends_66 ml_X11_125 (by decide) (Nat.le_of_ble_eq_true rfl) (by omega) ?_
            refine go_aload_n (y := mX11_ends) (pc := 69) dX11_ends_69 rfl rfl ?_
            refine go_mref (y := mX11_ends) (pc := 70) dX11_ends_70 fl_X11_7 rfl rfl (by decide) ?_
            refine go_iconst (y := mX11_ends) (pc := 73) dX11_ends_73 ?_
            refine go_nial (y := mX11_ends) (pc := 74) (k := 3) dX11_ends_74 (by decide) rfl (by omega) (fun r74 => ?_)
            refine go_top (b := S 0 3) (rs3 hr1) (fun t74 => ?_)
            refine go_icmp_gt (y := mX11_ends) (pc := 75) (tgt := 103) dX11_ends_75 (by decide) (by omega) (by omega) (fun h75 => ?_) (fun h75 => ?_)
            · skip
              refine go_iinc (y := mX11_ends) (pc := 103) dX11_ends_103 rfl (by decide) ?_
              refine go_goto (y := mX11_ends) (pc := 106) (tgt := 34) dX11_ends_106 (by decide) ?_
              refine ih' (by omega) (k + 1) ν1 (by omega) ?_ h17
              rw [esk, if_neg (fun w => by omega)]
              exact hr1
            · skip
              have hll := hl k (by omega)
              have hle : ln (esk S s sp q (s 18 h * b) k) k q = ln s k q := by rw [ln_esk (by omega) k (by omega), if_neg (by omega)]
              have hν1 : ν1 (170 + 16 * k + q) = ln s k q := (rqN hr1 (by rw [o5]; exact hq2) (by omega)).trans hle
              have J100 : ∀ x : Int, x = s 18 h * b → go 289 2 0 0 mX11_ends Q X 100 [.ref 276, .int (iI (h : Nat)), .int (iI (sp : Nat)), .int (iI (q : Nat)), .int (iI b), .int (iI (k : Nat))] [.int (iI x), .int (iI (q : Nat)), .int (iI (k : Nat)), .ref 276] (md σ ν1 μ) := by
                intro x hx
                refine go_callV3 (y := mX11_ends) (pc := 100) (y' := mX11_leansBy) (kc2 := 0) (ks2 := 0) dX11_ends_100 ml_X11_129 ok_X11_leansBy (show shp 276 = _ from rfl) ⟨_, _, rfl⟩ (by decide) ⟨rfl, rfl, rfl⟩ (by decide) (Nat.le_of_ble_eq_true rfl) rfl (m_leansBy (m := k) (q := q) (by omega) (by omega) (by omega) (by rw [hν1]; exact hll) ?_)
                refine go_iinc (y := mX11_ends) (pc := 103) dX11_ends_103 rfl (by decide) ?_
                refine go_goto (y := mX11_ends) (pc := 106) (tgt := 34) dX11_ends_106 (by decide) ?_
                refine ih' (by omega) (k + 1) _ (by omega) ?_ (by rw [wv_n (by omega)]; exact h17)
                rw [esk, if_pos ⟨by omega, by omega⟩, hle, hν1, hx]
                exact rel_sln (by omega) (by rw [o5]; exact hq2) hr1 n12 c4 (by rw [o5]; exact q16) (by rw [o11]; exact r12)
              refine go_aload_n (y := mX11_ends) (pc := 78) dX11_ends_78 rfl rfl ?_
              refine go_iload (y := mX11_ends) (pc := 79) dX11_ends_79 rfl ?_
              refine go_iload_n (y := mX11_ends) (pc := 81) dX11_ends_81 rfl rfl ?_
              refine go_aload_n (y := mX11_ends) (pc := 82) dX11_ends_82 rfl rfl ?_
              refine go_iload_n (y := mX11_ends) (pc := 83) dX11_ends_83 rfl rfl ?_
              refine go_iconst (y := mX11_ends) (pc := 84) dX11_ends_84 ?_
              refine go_callV2 (y := mX11_ends) (pc := 85) (y' := mX11_ofC) (kc2 := 0) (ks2 := 0) dX11_ends_85 ml_X11_94 ok_X11_ofC (show shp 276 = _ from rfl) ⟨_, _, rfl⟩ (by decide) ⟨rfl, rfl⟩ (by decide) (Nat.le_of_ble_eq_true rfl) rfl (m_ofC (h := h) (w := 2) (by omega) (by decide) (fun v85 e85 r85 => ?_))
              refine go_top (b := sdm (s 18 h)) ((e85.trans (rhS hr1 hh ho1)).trans (by rw [ox 18 h (by decide)])) (fun t85 => ?_)
              refine go_iconst (y := mX11_ends) (pc := 88) dX11_ends_88 ?_
              refine go_icmp_ne (y := mX11_ends) (pc := 89) (tgt := 97) dX11_ends_89 (by decide) (by omega) (by omega) (fun h89 => ?_) (fun h89 => ?_)
              · skip
                refine go_iload (y := mX11_ends) (pc := 97) dX11_ends_97 rfl ?_
                refine go_ineg (y := mX11_ends) (pc := 99) dX11_ends_99 ?_
                refine J100 _ ?_
                rcases hd with e | e
                · rw [e] at h89
                  exact absurd rfl h89
                · rw [e]; omega
              · skip
                refine go_iload (y := mX11_ends) (pc := 92) dX11_ends_92 rfl ?_
                refine go_goto (y := mX11_ends) (pc := 94) (tgt := 100) dX11_ends_94 (by decide) ?_
                refine J100 _ ?_
                rw [sdm_1.mp h89]; omega
    refine go_istore (y := mX11_ends) (pc := 29) dX11_ends_29 (by decide) ?_
    refine go_iconst (y := mX11_ends) (pc := 31) dX11_ends_31 ?_
    refine go_istore (y := mX11_ends) (pc := 32) dX11_ends_32 (by decide) ?_
    exact loop (S 0 7).toNat 0 ν (by omega) hr rfl
  refine go_aload_n (y := mX11_ends) (pc := 0) dX11_ends_0 rfl rfl ?_
  refine go_iload_n (y := mX11_ends) (pc := 1) dX11_ends_1 rfl rfl ?_
  refine go_iconst (y := mX11_ends) (pc := 2) dX11_ends_2 ?_
  refine go_callV2 (y := mX11_ends) (pc := 3) (y' := mX11_ofC) (kc2 := 0) (ks2 := 0) dX11_ends_3 ml_X11_94 ok_X11_ofC (show shp 276 = _ from rfl) ⟨_, _, rfl⟩ (by decide) ⟨rfl, rfl⟩ (by decide) (Nat.le_of_ble_eq_true rfl) rfl (m_ofC (h := h) (w := 0) (by omega) (by decide) (fun v3 e3 r3 => ?_))
  refine go_top (b := ((sp : Nat) : Int)) ((e3.trans (rhB hr hh)).trans hsp) (fun t3 => ?_)
  refine go_istore_n (y := mX11_ends) (pc := 6) dX11_ends_6 rfl (by decide) ?_
  refine go_aload_n (y := mX11_ends) (pc := 7) dX11_ends_7 rfl rfl ?_
  refine go_iload_n (y := mX11_ends) (pc := 8) dX11_ends_8 rfl rfl ?_
  refine go_iconst (y := mX11_ends) (pc := 9) dX11_ends_9 ?_
  refine go_callV2 (y := mX11_ends) (pc := 10) (y' := mX11_ofC) (kc2 := 0) (ks2 := 0) dX11_ends_10 ml_X11_94 ok_X11_ofC (show shp 276 = _ from rfl) ⟨_, _, rfl⟩ (by decide) ⟨rfl, rfl⟩ (by decide) (Nat.le_of_ble_eq_true rfl) rfl (m_ofC (h := h) (w := 1) (by omega) (by decide) (fun v10 e10 r10 => ?_))
  refine go_top (b := ((q : Nat) : Int)) ((e10.trans (rhA hr hh ho)).trans hq) (fun t10 => ?_)
  refine go_istore_n (y := mX11_ends) (pc := 13) dX11_ends_13 rfl (by decide) ?_
  refine go_aload_n (y := mX11_ends) (pc := 14) dX11_ends_14 rfl rfl ?_
  refine go_iload_n (y := mX11_ends) (pc := 15) dX11_ends_15 rfl rfl ?_
  refine go_iconst (y := mX11_ends) (pc := 16) dX11_ends_16 ?_
  refine go_callV2 (y := mX11_ends) (pc := 17) (y' := mX11_ofC) (kc2 := 0) (ks2 := 0) dX11_ends_17 ml_X11_94 ok_X11_ofC (show shp 276 = _ from rfl) ⟨_, _, rfl⟩ (by decide) ⟨rfl, rfl⟩ (by decide) (Nat.le_of_ble_eq_true rfl) rfl (m_ofC (h := h) (w := 4) (by omega) (by decide) (fun v17 e17 r17 => ?_))
  refine go_top (b := s 20 h) (e17.trans (rhM hr hh ho)) (fun t17 => ?_)
  refine go_iconst (y := mX11_ends) (pc := 20) dX11_ends_20 ?_
  refine go_icmp_ne (y := mX11_ends) (pc := 21) (tgt := 28) dX11_ends_21 (by decide) (by omega) (by omega) (fun h21 => ?_) (fun h21 => ?_)
  · skip
    refine go_iconst (y := mX11_ends) (pc := 28) dX11_ends_28 ?_
    exact J29 2 (by rw [if_neg (by omega)]) (by omega)
  · skip
    refine go_iconst (y := mX11_ends) (pc := 24) dX11_ends_24 ?_
    refine go_goto (y := mX11_ends) (pc := 25) (tgt := 29) dX11_ends_25 (by decide) ?_
    exact J29 1 (by rw [if_pos (by omega)]) (by omega)
set_option maxRecDepth 8000 in
set_option maxHeartbeats 4000000 in
theorem m_fills {h : Nat} (hh : (h : Int) < S 0 0) (hS : wfS S) (hC : wfC S s) (hr : rel S s ν) (ho : s 16 h = -1) {Q : Option Value → Mem → Prop} {X : String → Mem → Prop} (K : ∀ ν', rel S (if fsl S s (s 0 6) ≠ -1 then spk S s h (fsl S s (s 0 6)).toNat else s) ν' → ν' 17 = ν 17 → Q none (md σ ν' μ)) : mt 289 4 0 0 mX11_fills [.ref 276, .int (iI (h : Nat))] Q X (md σ ν μ) := by
  show go 289 4 0 0 mX11_fills Q X 0 [.ref 276, .int (iI (h : Nat)), .null, .null] [] _
  obtain ⟨n1, n12, c1, c4⟩ := wf_n hS
  obtain ⟨q0, q16, r0, r12⟩ := wf_r hS hC
  refine go_aload_n (y := mX11_fills) (pc := 0) dX11_fills_0 rfl rfl ?_
  refine go_aload_n (y := mX11_fills) (pc := 1) dX11_fills_1 rfl rfl ?_
  refine go_mref (y := mX11_fills) (pc := 2) dX11_fills_2 fl_X11_7 rfl rfl (by decide) ?_
  refine go_bipush (y := mX11_fills) (pc := 5) dX11_fills_5 (by decide) ?_
  refine go_nial (y := mX11_fills) (pc := 7) (k := 10) dX11_fills_7 (by decide) rfl (by omega) (fun r7 => ?_)
  refine go_top (b := s 0 6) (rs10 hr) (fun t7 => ?_)
  refine go_callV1 (y := mX11_fills) (pc := 8) (y' := mX11_firstOf) (kc2 := 0) (ks2 := 0) dX11_fills_8 ml_X11_135 ok_X11_firstOf (show shp 276 = _ from rfl) ⟨_, _, rfl⟩ (by decide) rfl (by decide) (Nat.le_of_ble_eq_true rfl) rfl (m_firstOf (by omega) hr hS hC (fun v8 e8 b8 => ?_))
  refine go_istore_n (y := mX11_fills) (pc := 11) dX11_fills_11 rfl (by decide) ?_
  refine go_iload_n (y := mX11_fills) (pc := 12) dX11_fills_12 rfl rfl ?_
  refine go_iconst (y := mX11_fills) (pc := 13) dX11_fills_13 ?_
  refine go_icmp_ne (y := mX11_fills) (pc := 14) (tgt := 18) dX11_fills_14 (by decide) (by omega) (by omega) (fun h14 => ?_) (fun h14 => ?_)
  · skip
    obtain ⟨p, hp⟩ := Int.eq_ofNat_of_zero_le (show 0 ≤ v8 by omega)
    have hp2 : (p : Int) < s 11 0 := by omega
    have hd := hC.2.2.2.1 p hp2
    obtain ⟨m, hm⟩ := Int.eq_ofNat_of_zero_le hd.1
    obtain ⟨q, hq⟩ := Int.eq_ofNat_of_zero_le hd.2.2.1
    have ep : (fsl S s (s 0 6)).toNat = p := by rw [← e8]; omega
    rw [if_pos (by rw [← e8]; omega), ep] at K
    have x := rel_spk hr hS hC hh hp2 hm hq ho
    refine go_loc (i := 2) (a := v8) (b := (p : Int)) hp rfl ?_
    refine go_aload_n (y := mX11_fills) (pc := 18) dX11_fills_18 rfl rfl ?_
    refine go_iload_n (y := mX11_fills) (pc := 19) dX11_fills_19 rfl rfl ?_
    refine go_iconst (y := mX11_fills) (pc := 20) dX11_fills_20 ?_
    refine go_callV2 (y := mX11_fills) (pc := 21) (y' := mX11_ofR) (kc2 := 0) (ks2 := 0) dX11_fills_21 ml_X11_97 ok_X11_ofR (show shp 276 = _ from rfl) ⟨_, _, rfl⟩ (by decide) ⟨rfl, rfl⟩ (by decide) (Nat.le_of_ble_eq_true rfl) rfl (m_ofR (r := p) (w := 0) (by omega) (by decide) (fun v21 e21 r21 => ?_))
    refine go_top (b := ((m : Nat) : Int)) ((e21.trans (rrB hr hp2)).trans hm) (fun t21 => ?_)
    refine go_istore_n (y := mX11_fills) (pc := 24) dX11_fills_24 rfl (by decide) ?_
    refine go_aload_n (y := mX11_fills) (pc := 25) dX11_fills_25 rfl rfl ?_
    refine go_iload_n (y := mX11_fills) (pc := 26) dX11_fills_26 rfl rfl ?_
    refine go_iconst (y := mX11_fills) (pc := 27) dX11_fills_27 ?_
    refine go_iload_n (y := mX11_fills) (pc := 28) dX11_fills_28 rfl rfl ?_
    refine go_callV3 (y := mX11_fills) (pc := 29) (y' := mX11_putC) (kc2 := 0) (ks2 := 0) dX11_fills_29 ml_X11_79 ok_X11_putC (show shp 276 = _ from rfl) ⟨_, _, rfl⟩ (by decide) ⟨rfl, rfl, rfl⟩ (by decide) (Nat.le_of_ble_eq_true rfl) rfl (m_putC (h := h) (w := 0) (by omega) (by decide) (by omega) ?_)
    refine go_aload_n (y := mX11_fills) (pc := 32) dX11_fills_32 rfl rfl ?_
    refine go_iload_n (y := mX11_fills) (pc := 33) dX11_fills_33 rfl rfl ?_
    refine go_iconst (y := mX11_fills) (pc := 34) dX11_fills_34 ?_
    refine go_aload_n (y := mX11_fills) (pc := 35) dX11_fills_35 rfl rfl ?_
    refine go_iload_n (y := mX11_fills) (pc := 36) dX11_fills_36 rfl rfl ?_
    refine go_iconst (y := mX11_fills) (pc := 37) dX11_fills_37 ?_
    refine go_callV2 (y := mX11_fills) (pc := 38) (y' := mX11_ofR) (kc2 := 0) (ks2 := 0) dX11_fills_38 ml_X11_97 ok_X11_ofR (show shp 276 = _ from rfl) ⟨_, _, rfl⟩ (by decide) ⟨rfl, rfl⟩ (by decide) (Nat.le_of_ble_eq_true rfl) rfl (m_ofR (r := p) (w := 1) (by omega) (by decide) (fun v38 e38 r38 => ?_))
    refine go_top (b := ((q : Nat) : Int)) ((e38.trans ((wv_n (by omega)).trans (rrA hr hp2))).trans hq) (fun t38 => ?_)
    refine go_callV3 (y := mX11_fills) (pc := 41) (y' := mX11_putC) (kc2 := 0) (ks2 := 0) dX11_fills_41 ml_X11_79 ok_X11_putC (show shp 276 = _ from rfl) ⟨_, _, rfl⟩ (by decide) ⟨rfl, rfl, rfl⟩ (by decide) (Nat.le_of_ble_eq_true rfl) rfl (m_putC (h := h) (w := 1) (by omega) (by decide) (by omega) ?_)
    refine go_aload_n (y := mX11_fills) (pc := 44) dX11_fills_44 rfl rfl ?_
    refine go_iload_n (y := mX11_fills) (pc := 45) dX11_fills_45 rfl rfl ?_
    refine go_iconst (y := mX11_fills) (pc := 46) dX11_fills_46 ?_
    refine go_aload_n (y := mX11_fills) (pc := 47) dX11_fills_47 rfl rfl ?_
    refine go_iload_n (y := mX11_fills) (pc := 48) dX11_fills_48 rfl rfl ?_
    refine go_iconst (y := mX11_fills) (pc := 49) dX11_fills_49 ?_
    refine go_callV2 (y := mX11_fills) (pc := 50) (y' := mX11_ofR) (kc2 := 0) (ks2 := 0) dX11_fills_50 ml_X11_97 ok_X11_ofR (show shp 276 = _ from rfl) ⟨_, _, rfl⟩ (by decide) ⟨rfl, rfl⟩ (by decide) (Nat.le_of_ble_eq_true rfl) rfl (m_ofR (r := p) (w := 2) (by omega) (by decide) (fun v50 e50 r50 => ?_))
    refine go_top (b := sdm (s 14 p)) (e50.trans (((wv_n (by omega)).trans (wv_n (by omega))).trans (rrS hr hp2))) (fun t50 => ?_)
    refine go_callV3 (y := mX11_fills) (pc := 53) (y' := mX11_putC) (kc2 := 0) (ks2 := 0) dX11_fills_53 ml_X11_79 ok_X11_putC (show shp 276 = _ from rfl) ⟨_, _, rfl⟩ (by decide) ⟨rfl, rfl, rfl⟩ (by decide) (Nat.le_of_ble_eq_true rfl) rfl (m_putC (h := h) (w := 2) (by omega) (by decide) (by have := sdm_b (s 14 p); omega) ?_)
    refine go_aload_n (y := mX11_fills) (pc := 56) dX11_fills_56 rfl rfl ?_
    refine go_iload_n (y := mX11_fills) (pc := 57) dX11_fills_57 rfl rfl ?_
    refine go_iconst (y := mX11_fills) (pc := 58) dX11_fills_58 ?_
    refine go_aload_n (y := mX11_fills) (pc := 59) dX11_fills_59 rfl rfl ?_
    refine go_mref (y := mX11_fills) (pc := 60) dX11_fills_60 fl_X11_7 rfl rfl (by decide) ?_
    refine go_iconst (y := mX11_fills) (pc := 63) dX11_fills_63 ?_
    refine go_nial (y := mX11_fills) (pc := 64) (k := 2) dX11_fills_64 (by decide) rfl (by omega) (fun r64 => ?_)
    refine go_top (b := S 0 2) (((wv_n (by omega)).trans ((wv_n (by omega)).trans (wv_n (by omega)))).trans (rs2 hr)) (fun t64 => ?_)
    refine go_callV3 (y := mX11_fills) (pc := 65) (y' := mX11_putC) (kc2 := 0) (ks2 := 0) dX11_fills_65 ml_X11_79 ok_X11_putC (show shp 276 = _ from rfl) ⟨_, _, rfl⟩ (by decide) ⟨rfl, rfl, rfl⟩ (by decide) (Nat.le_of_ble_eq_true rfl) rfl (m_putC (h := h) (w := 3) (by omega) (by decide) (by have := hS.2.2.2.2.1; have := hS.2.2.2.2.2.1; omega) ?_)
    refine go_aload_n (y := mX11_fills) (pc := 68) dX11_fills_68 rfl rfl ?_
    refine go_iload_n (y := mX11_fills) (pc := 69) dX11_fills_69 rfl rfl ?_
    refine go_iconst (y := mX11_fills) (pc := 70) dX11_fills_70 ?_
    refine go_iconst (y := mX11_fills) (pc := 71) dX11_fills_71 ?_
    refine go_callV3 (y := mX11_fills) (pc := 72) (y' := mX11_putC) (kc2 := 0) (ks2 := 0) dX11_fills_72 ml_X11_79 ok_X11_putC (show shp 276 = _ from rfl) ⟨_, _, rfl⟩ (by decide) ⟨rfl, rfl, rfl⟩ (by decide) (Nat.le_of_ble_eq_true rfl) rfl (m_putC (h := h) (w := 4) (by omega) (by decide) (by omega) ?_)
    refine go_aload_n (y := mX11_fills) (pc := 75) dX11_fills_75 rfl rfl ?_
    refine go_iload_n (y := mX11_fills) (pc := 76) dX11_fills_76 rfl rfl ?_
    refine go_iconst (y := mX11_fills) (pc := 77) dX11_fills_77 ?_
    refine go_aload_n (y := mX11_fills) (pc := 78) dX11_fills_78 rfl rfl ?_
    refine go_iload_n (y := mX11_fills) (pc := 79) dX11_fills_79 rfl rfl ?_
    refine go_iconst (y := mX11_fills) (pc := 80) dX11_fills_80 ?_
    refine go_callV2 (y := mX11_fills) (pc := 81) (y' := mX11_of) (kc2 := 0) (ks2 := 0) dX11_fills_81 ml_X11_100 ok_X11_of (show shp 276 = _ from rfl) ⟨_, _, rfl⟩ (by decide) ⟨rfl, rfl⟩ (by decide) (Nat.le_of_ble_eq_true rfl) rfl (m_of (m := m) (w := 5) (by omega) (by decide) (fun v81 e81 r81 => ?_))
    refine go_top (b := s 4 m) (e81.trans (((wv_n (by omega)).trans ((wv_n (by omega)).trans ((wv_n (by omega)).trans ((wv_n (by omega)).trans (wv_n (by omega)))))).trans (rlT hr (by omega)))) (fun t81 => ?_)
    refine go_iconst (y := mX11_fills) (pc := 84) dX11_fills_84 ?_
    refine go_iadd (y := mX11_fills) (pc := 85) dX11_fills_85 ?_
    refine go_topI (b := wp (s 4 m + 1)) (iI_wp _).symm ?_
    refine go_callV3 (y := mX11_fills) (pc := 86) (y' := mX11_puts) (kc2 := 0) (ks2 := 0) dX11_fills_86 ml_X11_138 ok_X11_puts (show shp 276 = _ from rfl) ⟨_, _, rfl⟩ (by decide) ⟨rfl, rfl, rfl⟩ (by decide) (Nat.le_of_ble_eq_true rfl) rfl (m_puts (m := m) (w := 5) (by omega) (by decide) (wp_rng _) ?_)
    refine go_aload_n (y := mX11_fills) (pc := 89) dX11_fills_89 rfl rfl ?_
    refine go_aload_n (y := mX11_fills) (pc := 90) dX11_fills_90 rfl rfl ?_
    refine go_iload_n (y := mX11_fills) (pc := 91) dX11_fills_91 rfl rfl ?_
    refine go_iconst (y := mX11_fills) (pc := 92) dX11_fills_92 ?_
    refine go_callV2 (y := mX11_fills) (pc := 93) (y' := mX11_ofR) (kc2 := 0) (ks2 := 0) dX11_fills_93 ml_X11_97 ok_X11_ofR (show shp 276 = _ from rfl) ⟨_, _, rfl⟩ (by decide) ⟨rfl, rfl⟩ (by decide) (Nat.le_of_ble_eq_true rfl) rfl (m_ofR (r := p) (w := 1) (by omega) (by decide) (fun v93 e93 r93 => ?_))
    refine go_top (b := ((q : Nat) : Int)) ((e93.trans (((wv_n (by omega)).trans ((wv_n (by omega)).trans ((wv_n (by omega)).trans ((wv_n (by omega)).trans ((wv_n (by omega)).trans (wv_n (by omega))))))).trans (rrA hr hp2))).trans hq) (fun t93 => ?_)
    refine go_iconst (y := mX11_fills) (pc := 96) dX11_fills_96 ?_
    refine go_aload_n (y := mX11_fills) (pc := 97) dX11_fills_97 rfl rfl ?_
    refine go_iload_n (y := mX11_fills) (pc := 98) dX11_fills_98 rfl rfl ?_
    refine go_iconst (y := mX11_fills) (pc := 99) dX11_fills_99 ?_
    refine go_callV2 (y := mX11_fills) (pc := 100) (y' := mX11_ofR) (kc2 := 0) (ks2 := 0) dX11_fills_100 ml_X11_97 ok_X11_ofR (show shp 276 = _ from rfl) ⟨_, _, rfl⟩ (by decide) ⟨rfl, rfl⟩ (by decide) (Nat.le_of_ble_eq_true rfl) rfl (m_ofR (r := p) (w := 2) (by omega) (by decide) (fun v100 e100 r100 => ?_))
    refine go_top (b := sdm (s 14 p)) (e100.trans (((wv_n (by omega)).trans ((wv_n (by omega)).trans ((wv_n (by omega)).trans ((wv_n (by omega)).trans ((wv_n (by omega)).trans (wv_n (by omega))))))).trans (rrS hr hp2))) (fun t100 => ?_)
    refine go_callV3 (y := mX11_fills) (pc := 103) (y' := mX11_putM) (kc2 := 0) (ks2 := 0) dX11_fills_103 ml_X11_132 ok_X11_putM (show shp 276 = _ from rfl) ⟨_, _, rfl⟩ (by decide) ⟨rfl, rfl, rfl⟩ (by decide) (Nat.le_of_ble_eq_true rfl) rfl (m_putM (q := q) (w := 4) (by omega) (by decide) (by have := sdm_b (s 14 p); omega) ?_)
    refine go_aload_n (y := mX11_fills) (pc := 106) dX11_fills_106 rfl rfl ?_
    refine go_iload_n (y := mX11_fills) (pc := 107) dX11_fills_107 rfl rfl ?_
    refine go_callV1 (y := mX11_fills) (pc := 108) (y' := mX11_drops) (kc2 := 0) (ks2 := 0) dX11_fills_108 ml_X11_110 ok_X11_drops (show shp 276 = _ from rfl) ⟨_, _, rfl⟩ (by decide) rfl (by decide) (Nat.le_of_ble_eq_true rfl) rfl (m_drops (r := p) (by rw [wv_n (by omega), wv_n (by omega), wv_n (by omega), wv_n (by omega), wv_n (by omega), wv_n (by omega), wv_n (by omega), rs11 hr]; exact hp2) (by rw [wv_n (by omega), wv_n (by omega), wv_n (by omega), wv_n (by omega), wv_n (by omega), wv_n (by omega), wv_n (by omega), rs11 hr]; exact r12) ?_)
    refine go_return (y := mX11_fills) (pc := 111) dX11_fills_111 rfl ?_
    refine K _ x ?_
    rw [dpv_lo (by decide), if_neg (by decide), wv_n (by omega), wv_n (by omega), wv_n (by omega), wv_n (by omega), wv_n (by omega), wv_n (by omega), wv_n (by omega)]
  · skip
    refine go_return (y := mX11_fills) (pc := 17) dX11_fills_17 rfl ?_
    rw [if_neg (fun w => w (e8 ▸ h14))] at K
    exact K ν hr rfl
end MReads3
