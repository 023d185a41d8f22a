/-! THE LAW'S LOOP: an act -/
def mL_law (L : Nat) (xs : Nat → Int32) : MI := (yL_law, cL_law, 9, some .boolean, [], some (false, L, xs))
theorem mS0 {y : MI} {n : Nat} (h : mokS y n) : mok0 y n ∧ Cond.static y.1 ∈ aw := by
  obtain ⟨⟨k1, k2, k3, k4, k5, k6, k9⟩, k7⟩ := h
  exact ⟨⟨k1, k2, k3, k4, k5, k6⟩, k7⟩
def KR (L : kpL) : Prop := ∀ x ∈ L, ∀ r j, rng (x.2 r j)
def LW (T : Int) (n : Nat) (L : kpL) (μ : Mem) : Prop := LV T μ ∧ HV T n (min 8 L.length) L μ ∧ KR L
theorem LW_mono {T T' : Int} {n : Nat} {L : kpL} {μ : Mem} (h : LW T n L μ) (hT : T ≤ T') : LW T' n L μ := ⟨⟨h.1.1, GD_mono h.1.2 hT⟩, HV_mono h.2.1 hT, h.2.2⟩
abbrev lF (cy : Nat → ClassId) (ad : Nat → Nat) (L : kpL) : va_W := paC cy 48 (ad 402) (kff L) :: kfc cy L
theorem LW_act {T : Int} {n : Nat} {L : kpL} {μ σ' ω' τ : Mem} {A : Nat → Nat} (h : LW T n L μ) (hμ : ∀ a i, rng (μ a i)) (e : eqC τ (vw 20 μ)) (hG : GD (su μ) σ' ω' (T + 60)) : LW (T + 60) (if n < 7 then n + 1 else 0) ((A, vw 276 μ) :: L) (ow 276 ω' (put 20 σ' (hst μ n τ))) := by
  obtain ⟨hV, hH, hR⟩ := h
  have es : su (ow 276 ω' (put 20 σ' (hst μ n τ))) = su μ := by rw [su_ow (Or.inl rfl), su_put20, su_hst]
  refine ⟨⟨by rw [es]; exact hV.1, ?_⟩, HV_hst hV hH (by omega) rfl e, fun x hx => ?_⟩
  · rw [es]
    refine GD_cg (ω := ω') (GD_eq hV.1 hG (eqC_cg fun r j hr => ?_)) (fun r j hr => ow_r hr)
    show ow 276 ω' (put 20 σ' (hst μ n τ)) (20 + r) j = σ' r j
    rw [ow_lo (Or.inl rfl) (by omega), put_r hr]
  · rcases List.mem_cons.mp hx with h | h
    · rw [h]
      exact fun r j => hμ _ _
    · exact hR x h
section Law
variable {D : va_G} {cy : Nat → ClassId} {X0 : Nat → Prop} {kc0 ks0 : Nat} {PQ : Array Value → State → Outcome → State → Prop} {PX : String → State → State → Prop} {L : Nat} {xs : Nat → Int32}
set_option maxRecDepth 8000 in
theorem law_108 (hL : L ≤ 300) {ad : Nat → Nat} {t n : Nat} {Lk : kpL} {μ : Mem} (ht : t < 46) (hn : Lk.length ≤ t) (hW : LW (60 * t) n Lk μ)
    (K : ∀ ad' n' Lk' μ', Lk'.length ≤ t + 1 → LW (60 * (t + 1)) n' Lk' μ' → gl D cy X0 293 ad' (lF cy ad' Lk') 10 kc0 ks0 (mL_law L xs) PQ PX 39 [.ref 6000, .ref 0, .ref 276, .ref 402, .int (iI (Lk'.length : Nat)), .int (iI ((t + 1 : Nat) : Int)), .null, .null, .null] [] μ') :
    gl D cy X0 293 ad (lF cy ad Lk) 10 (17 + kc0) (382 + ks0) (mL_law L xs) PQ PX 108 [.ref 6000, .ref 0, .ref 276, .ref 402, .int (iI (Lk.length : Nat)), .int (iI (t : Nat)), .int (iI ((48 + 4 * t : Nat) : Int)), .null, .null] [] μ := by
  refine gl_rng (fun hμ => ?_)
  obtain ⟨hV, hH, hR⟩ := id hW
  refine gl_aload_n (y := mL_law L xs) (pc := 108) dL_law_108 rfl rfl ?_
  refine gl_copy (y := mL_law L xs) (pc := 109) (kc2 := kc0) (ks2 := ks0) dL_law_109 ml_L_252 (okn_ref (by decide) (okn_ref (by decide) (okn_ref (by decide) (okn_ref (by decide) (okn_int (okn_int (okn_int (okn_null (okn_null okn_nil))))))))) okn_nil (by decide) (by decide) (Nat.le_refl _) (Nat.le_refl _) (fun ad1 ω' had hcp => ?_)
  have hF : paC cy 48 (ad 402) (kff Lk) = paC cy 48 (ad1 402) (kff Lk) := by rw [had 402 (Or.inr (by decide))]
  refine gl_astore (y := mL_law L xs) (pc := 112) dL_law_112 (show 7 < 9 by decide) ?_
  refine gl_keep (p := paC cy 48 (ad 402) (kff Lk)) (G := kfc cy Lk) (ls' := [.ref 6000, .ref 0, .ref 403, .ref 402, .int (iI (Lk.length : Nat)), .int (iI (t : Nat)), .int (iI ((48 + 4 * t : Nat) : Int)), .ref 276, .null]) (st' := []) hμ rfl rfl ?_
  rw [hF]
  refine gl_aload_n (y := mL_law L xs) (pc := 114) dL_law_114 rfl rfl ?_
  refine gl_aload (y := mL_law L xs) (pc := 115) dL_law_115 rfl ?_
  refine gl_aload_n (y := mL_law L xs) (pc := 117) dL_law_117 rfl rfl ?_
  refine gl_iload (y := mL_law L xs) (pc := 118) dL_law_118 rfl ?_
  refine gl_callS (y := mL_law L xs) (pc := 120) (z' := 293) (d' := 9) (kc' := 0) (ks' := 0) (kc2 := kc0) (ks2 := ks0) (y' := mL_acts L xs) (as := [.ref 0, .ref 276, .ref 6000, .int (iI ((48 + 4 * t : Nat) : Int))]) (rest := []) dL_law_120 rfl ml_L_395 (Or.inr rfl) ok_L_acts rfl (show (4 : Nat) ≤ 10 by decide) (by intro v hv; simp only [List.mem_cons, List.not_mem_nil, or_false] at hv; rcases hv with rfl | rfl | rfl | rfl <;> rfl) (by decide) (Nat.le_refl _) (by decide) (by omega) (by omega) ?_
  have hG' : GD (su μ) (vw 20 μ) ω' (60 * t) := ⟨hV.2.1, own_cp hV.1 hV.2.1 hV.2.2.1 hcp, hV.2.2.2⟩
  have hB := HV_HB hH hG'
  rw [show ow 276 ω' μ = ow 276 ω' (put 20 (vw 20 μ) μ) by rw [pvw]]
  refine l_acts hL (Or.inl rfl) (by decide) hB hG' (by omega) (by omega) ?_ (fun σ' ω'' τ he hG2 => ?_)
  · show gl D cy X0 293 (adK ad1) (paC cy 48 (ad1 402) (kff Lk) :: (celO cy ad1 (vw 276 μ) ++ kfc cy Lk)) 10 kc0 ks0 (mL_law L xs) PQ PX 123 [.ref 6000, .ref 0, .ref 403, .ref 402, .int (iI (Lk.length : Nat)), .int (iI (t : Nat)), .int (iI ((48 + 4 * t : Nat) : Int)), .ref 276, .null] [.int (iI (-1))] (ow 276 ω' (put 20 (vw 20 μ) μ))
    rw [pvw]
    refine gl_istore (y := mL_law L xs) (pc := 123) dL_law_123 (show 8 < 9 by decide) ?_
    refine gl_iload (y := mL_law L xs) (pc := 125) dL_law_125 rfl ?_
    refine gl_if_ne (y := mL_law L xs) (pc := 127) (tgt := 132) dL_law_127 (by decide) ⟨by decide, by decide⟩ (fun _ => ?_) (fun h => absurd h (by decide))
    refine gl_iload (y := mL_law L xs) (pc := 132) dL_law_132 rfl ?_
    refine gl_if_ge (y := mL_law L xs) (pc := 134) (tgt := 140) dL_law_134 (by decide) ⟨by decide, by decide⟩ (fun h => absurd h (by decide)) (fun _ => ?_)
    refine gl_goto (y := mL_law L xs) (pc := 137) (tgt := 167) dL_law_137 (by decide) ?_
    refine gl_null 6 (gl_null 7 (gl_null 8 ?_))
    refine gl_take (p := paC cy 48 (ad1 402) (kff Lk)) (B := ad1) (ω := vw 276 μ) (G := kfc cy Lk) (ls' := [.ref 6000, .ref 0, .ref 276, .ref 402, .int (iI (Lk.length : Nat)), .int (iI (t : Nat)), .null, .null, .null]) (st' := []) (fun r j => hμ _ _) rfl rfl ?_
    rw [ow_ow6, ow_vw6]
    refine gl_iinc (y := mL_law L xs) (pc := 167) (v := (t : Int)) dL_law_167 rfl (show 5 < 9 by decide) ?_
    refine gl_goto (y := mL_law L xs) (pc := 170) (tgt := 39) dL_law_170 (by decide) ?_
    exact K (adT ad1 (adK ad1)) n Lk μ (by omega) (LW_mono hW (by omega))
  · have hW2 := LW_act (A := ad1) hW hμ he hG2
    have h62 := hW2.2.1.2.2.2.1
    simp only [List.length_cons] at h62
    show gl D cy X0 293 (adK ad1) (paC cy 48 (adK ad1 402) (kff Lk) :: (celO cy ad1 (vw 276 μ) ++ kfc cy Lk)) 10 kc0 ks0 (mL_law L xs) PQ PX 123 [.ref 6000, .ref 0, .ref 403, .ref 402, .int (iI (Lk.length : Nat)), .int (iI (t : Nat)), .int (iI ((48 + 4 * t : Nat) : Int)), .ref 276, .null] [.int (iI 1)] (ow 276 ω'' (put 20 σ' (hst μ n τ)))
    generalize ow 276 ω'' (put 20 σ' (hst μ n τ)) = M2 at hW2 h62
    refine gl_istore (y := mL_law L xs) (pc := 123) dL_law_123 (show 8 < 9 by decide) ?_
    refine gl_iload (y := mL_law L xs) (pc := 125) dL_law_125 rfl ?_
    refine gl_if_ne (y := mL_law L xs) (pc := 127) (tgt := 132) dL_law_127 (by decide) ⟨by decide, by decide⟩ (fun _ => ?_) (fun h => absurd h (by decide))
    refine gl_iload (y := mL_law L xs) (pc := 132) dL_law_132 rfl ?_
    refine gl_if_ge (y := mL_law L xs) (pc := 134) (tgt := 140) dL_law_134 (by decide) ⟨by decide, by decide⟩ (fun _ => ?_) (fun h => absurd h (by decide))
    refine gl_aload_n (y := mL_law L xs) (pc := 140) dL_law_140 rfl rfl ?_
    refine gl_iload (y := mL_law L xs) (pc := 141) dL_law_141 rfl ?_
    refine gl_aload_n (y := mL_law L xs) (pc := 143) dL_law_143 rfl rfl ?_
    obtain ⟨fs, hfs⟩ := celO_0 (cy := cy) (A := ad1) (ω := vw 276 μ) (G := kfc cy Lk)
    refine gl_aastore (y := mL_law L xs) (pc := 144) (N := 48) (ad := adK ad1) (G9 := celO cy ad1 (vw 276 μ) ++ kfc cy Lk) (k := 0) (b := 403) (n := Lk.length) (f := kff Lk) dL_law_144 hfs rfl (by omega) (by decide) ?_
    rw [show va_up (kff Lk) Lk.length (some (adK ad1 403)) = kff ((ad1, vw 276 μ) :: Lk) from kff_cons.symm]
    refine gl_iinc (y := mL_law L xs) (pc := 145) (v := (Lk.length : Int)) dL_law_145 rfl (show 4 < 9 by decide) ?_
    refine gl_aload (y := mL_law L xs) (pc := 148) dL_law_148 rfl ?_
    refine gl_astore_n (y := mL_law L xs) (pc := 150) dL_law_150 rfl (show 2 < 9 by decide) ?_
    refine gl_aload_n (y := mL_law L xs) (pc := 151) dL_law_151 rfl rfl ?_
    refine gl_callV (y := mL_law L xs) (pc := 152) (z' := 276) (d' := 3) (kc' := 0) (ks' := 0) (kc2 := kc0) (ks2 := ks0) (b := 0) (y' := mX10_undoCount) (as := []) (rest := []) dL_law_152 rfl ml_L_399 ok_X10_undoCount rfl ⟨_, _, rfl⟩ (by decide) rfl (by decide) (by intro v hv; cases hv) (by decide) (by decide) (by decide) (by omega) (by omega) ?_
    refine q_undoCount hW2.1.1 hW2.1.2.1 ?_
    rw [h62]
    refine gl_bipush (y := mL_law L xs) (pc := 155) dL_law_155 (by decide) ?_
    refine gl_iload (y := mL_law L xs) (pc := 157) (v := (Lk.length : Int) + 1) dL_law_157 rfl ?_
    refine gl_mmin (y := mL_law L xs) (pc := 159) dL_law_159 ml_L_402 (by decide) (Nat.le_of_ble_eq_true rfl) ⟨by decide, by decide⟩ ⟨by omega, by omega⟩ ?_
    refine gl_icmp_eq (y := mL_law L xs) (pc := 162) (tgt := 167) dL_law_162 (by decide) ⟨by omega, by omega⟩ ⟨by omega, by omega⟩ (fun _ => ?_) (fun h => absurd (by omega) h)
    refine gl_null 6 (gl_null 7 (gl_null 8 ?_))
    refine gl_iinc (y := mL_law L xs) (pc := 167) (v := (t : Int)) dL_law_167 rfl (show 5 < 9 by decide) ?_
    refine gl_goto (y := mL_law L xs) (pc := 170) (tgt := 39) dL_law_170 (by decide) ?_
    exact K (adK ad1) _ ((ad1, vw 276 μ) :: Lk) M2 (by simp only [List.length_cons]; omega) (LW_mono hW2 (by omega))
end Law
