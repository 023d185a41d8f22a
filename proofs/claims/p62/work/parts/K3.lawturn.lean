/-! THE LAW'S LOOP: a turn, all turns -/
section Law3
variable {D : va_G} {cy : Nat → ClassId} {X0 : Nat → Prop} {kc0 ks0 : Nat} {PQ : Array Value → State → Outcome → State → Prop} {PX : String → State → State → Prop} {L : Nat} {xs : Nat → Int32}
theorem LW_fore {T : Int} {n : Nat} {Lk : kpL} {μ μ' : Mem} (h : LW T n Lk μ) (hF : FI (su μ) (vw 20 μ) μ') (e : ∀ a j, a < 41 ∨ (62 ≤ a ∧ a < 293) → μ' a j = μ a j) : LW T n Lk μ' := by
  obtain ⟨hV, hH, hR⟩ := h
  refine ⟨⟨by rw [hF.1]; exact hV.1, ?_⟩, HV_cg hH (fun b j hb => e b j (by omega)), hR⟩
  rw [hF.1]
  exact GD_cg (ω := vw 276 μ) (GD_eq hV.1 hV.2 hF.2.1) (fun r j hr => e _ _ (by omega))
set_option maxRecDepth 8000 in
theorem law_55 (hL : L ≤ 300) {ad : Nat → Nat} {t n : Nat} {Lk : kpL} {μ : Mem} (ht : t < 46) (hn : Lk.length ≤ t) (hW : LW (60 * t) n Lk μ)
    (K : ∀ ad' n' Lk' μ', Lk'.length ≤ t + 1 → LW (60 * (t + 1)) n' Lk' μ' → gl D cy X0 293 ad' (lF cy ad' Lk') 10 kc0 ks0 (mL_law L xs) PQ PX 39 [.ref 6000, .ref 0, .ref 276, .ref 402, .int (iI (Lk'.length : Nat)), .int (iI ((t + 1 : Nat) : Int)), .null, .null, .null] [] μ') :
    gl D cy X0 293 ad (lF cy ad Lk) 10 (35 + kc0) (776 + ks0) (mL_law L xs) PQ PX 55 [.ref 6000, .ref 0, .ref 276, .ref 402, .int (iI (Lk.length : Nat)), .int (iI (t : Nat)), .int (iI ((48 + 4 * t : Nat) : Int)), .null, .null] [] μ := by
  obtain ⟨hV, hH, hR⟩ := id hW
  have w5 := hV.2.1.1.2.1
  have w0 := hV.2.1.1.1
  refine gl_aload_n (y := mL_law L xs) (pc := 55) dL_law_55 rfl rfl ?_
  refine gl_aload_n (y := mL_law L xs) (pc := 56) dL_law_56 rfl rfl ?_
  refine gl_callS (y := mL_law L xs) (pc := 57) (z' := 293) (d' := 9) (kc' := 0) (ks' := 0) (kc2 := 35 + kc0) (ks2 := 776 + ks0) (y' := mL_isAs) (as := [.ref 0, .ref 276]) (rest := []) dL_law_57 rfl ml_L_387 (Or.inl rfl) (mS0 ok_L_isAs) rfl (by decide) (by intro v hv; simp only [List.mem_cons, List.not_mem_nil, or_false] at hv; rcases hv with rfl | rfl <;> rfl) (by decide) (Nat.le_refl _) (by decide) (by omega) (by omega) ?_
  refine l_isAs hV (by omega) ?_
  show gl D cy X0 293 ad (lF cy ad Lk) 10 (35 + kc0) (776 + ks0) (mL_law L xs) PQ PX 60 [.ref 6000, .ref 0, .ref 276, .ref 402, .int (iI (Lk.length : Nat)), .int (iI (t : Nat)), .int (iI ((48 + 4 * t : Nat) : Int)), .null, .null] [.int (iI 1)] μ
  refine gl_if_eq (y := mL_law L xs) (pc := 60) (tgt := 106) dL_law_60 (by decide) ⟨by decide, by decide⟩ (fun h => absurd h (by decide)) (fun _ => ?_)
  refine gl_iload (y := mL_law L xs) (pc := 63) dL_law_63 rfl ?_
  refine gl_bipush (y := mL_law L xs) (pc := 65) dL_law_65 (by decide) ?_
  refine gl_iremN (y := mL_law L xs) (pc := 67) (a := t) (b := 9) dL_law_67 (by omega) (by decide) (by decide) ?_
  refine gl_bipush (y := mL_law L xs) (pc := 68) dL_law_68 (by decide) ?_
  refine gl_icmp_ne (y := mL_law L xs) (pc := 70) (tgt := 108) dL_law_70 (by decide) ⟨by omega, by omega⟩ ⟨by decide, by decide⟩ (fun _ => ?_) (fun _ => ?_)
  · exact gl_less (kc' := 17 + kc0) (ks' := 382 + ks0) (by omega) (by omega) (law_108 hL ht hn hW K)
  refine gl_aload_n (y := mL_law L xs) (pc := 73) dL_law_73 rfl rfl ?_
  refine gl_aload_n (y := mL_law L xs) (pc := 74) dL_law_74 rfl rfl ?_
  refine gl_aload_n (y := mL_law L xs) (pc := 75) dL_law_75 rfl rfl ?_
  refine gl_iload (y := mL_law L xs) (pc := 76) (v := ((48 + 4 * t : Nat) : Int)) dL_law_76 rfl ?_
  refine gl_iconst (y := mL_law L xs) (pc := 78) dL_law_78 ?_
  refine gl_iadd (y := mL_law L xs) (pc := 79) dL_law_79 ?_
  refine gl_top (y := mL_law L xs) (b := ((51 + 4 * t : Nat) : Int)) (by omega) (fun _ => ?_)
  refine gl_aload_n (y := mL_law L xs) (pc := 80) dL_law_80 rfl rfl ?_
  refine gl_getI (y := mL_law L xs) (pc := 81) dL_law_81 fl_L_60 (ow_sh (c := 276) (Or.inl rfl) 0 (by decide)) rfl (by decide) (fun _ => ?_)
  have e9 : μ 276 9 = (vw 20 μ) 5 0 := hV.2.2.1.1.2.2.2.2.2.2.2.2.2.1
  obtain ⟨mo, hmo⟩ : ∃ mo : Nat, (vw 20 μ) 5 0 = mo := ⟨((vw 20 μ) 5 0).toNat, by omega⟩
  refine gl_iconst (y := mL_law L xs) (pc := 84) dL_law_84 ?_
  refine gl_iadd (y := mL_law L xs) (pc := 85) dL_law_85 ?_
  refine gl_top (y := mL_law L xs) (b := ((mo + 1 : Nat) : Int)) (by omega) (fun _ => ?_)
  refine gl_callS (y := mL_law L xs) (pc := 86) (z' := 0) (d' := 1) (kc' := 0) (ks' := 0) (kc2 := 35 + kc0) (ks2 := 776 + ks0) (y' := mL_pick L xs) (as := [.ref 6000, .int (iI ((51 + 4 * t : Nat) : Int)), .int (iI ((mo + 1 : Nat) : Int))]) (rest := [.ref 276, .ref 0]) dL_law_86 rfl ml_L_300 (Or.inr rfl) ok_L_pick rfl (show (3 : Nat) ≤ _ from Nat.le_of_ble_eq_true rfl) (by intro v hv; simp only [List.mem_cons, List.not_mem_nil, or_false] at hv; rcases hv with rfl | rfl | rfl <;> rfl) (by decide) (Nat.zero_le _) (by decide) (by omega) (by omega) ?_
  refine l_pick hL (k := 51 + 4 * t) (by omega) (n := mo + 1) ⟨by omega, by omega⟩ (fun q hq => ?_)
  show gl D cy X0 293 ad (lF cy ad Lk) 10 (35 + kc0) (776 + ks0) (mL_law L xs) PQ PX 89 [.ref 6000, .ref 0, .ref 276, .ref 402, .int (iI (Lk.length : Nat)), .int (iI (t : Nat)), .int (iI ((48 + 4 * t : Nat) : Int)), .null, .null] [.int (iI (q : Nat)), .ref 276, .ref 0] μ
  refine gl_aload_n (y := mL_law L xs) (pc := 89) dL_law_89 rfl rfl ?_
  refine gl_iload (y := mL_law L xs) (pc := 90) (v := ((48 + 4 * t : Nat) : Int)) dL_law_90 rfl ?_
  refine gl_iconst (y := mL_law L xs) (pc := 92) dL_law_92 ?_
  refine gl_iadd (y := mL_law L xs) (pc := 93) dL_law_93 ?_
  refine gl_top (y := mL_law L xs) (b := ((51 + 4 * t : Nat) : Int)) (by omega) (fun _ => ?_)
  refine gl_sipush (y := mL_law L xs) (pc := 94) dL_law_94 (by decide) ?_
  refine gl_callS (y := mL_law L xs) (pc := 97) (z' := 0) (d' := 1) (kc' := 0) (ks' := 0) (kc2 := 35 + kc0) (ks2 := 776 + ks0) (y' := mL_pick L xs) (as := [.ref 6000, .int (iI ((51 + 4 * t : Nat) : Int)), .int (iI ((301 : Nat) : Int))]) (rest := [.int (iI (q : Nat)), .ref 276, .ref 0]) dL_law_97 rfl ml_L_300 (Or.inr rfl) ok_L_pick rfl (show (3 : Nat) ≤ _ from Nat.le_of_ble_eq_true rfl) (by intro v hv; simp only [List.mem_cons, List.not_mem_nil, or_false] at hv; rcases hv with rfl | rfl | rfl <;> rfl) (Nat.le_of_ble_eq_true rfl) (Nat.zero_le _) (by decide) (by omega) (by omega) ?_
  refine l_pick hL (k := 51 + 4 * t) (by omega) (n := 301) ⟨by omega, by omega⟩ (fun mi hmi => ?_)
  show gl D cy X0 293 ad (lF cy ad Lk) 10 (35 + kc0) (776 + ks0) (mL_law L xs) PQ PX 100 [.ref 6000, .ref 0, .ref 276, .ref 402, .int (iI (Lk.length : Nat)), .int (iI (t : Nat)), .int (iI ((48 + 4 * t : Nat) : Int)), .null, .null] [.int (iI (mi : Nat)), .int (iI (q : Nat)), .ref 276, .ref 0] μ
  refine gl_foretold (S := su μ) (σ := vw 20 μ) (T := 60 * t) (y := mL_law L xs) (pc := 100) (kc2 := 17 + kc0) (ks2 := 382 + ks0) dL_law_100 ml_L_391 hV.1 hV.2.1 hV.2.2.2.1 hV.2.2.2.2.1 hV.2.2.2.2.2 (by omega) (by omega) hmi ⟨rfl, eqC_refl _, hV.2.2.1⟩ (by decide) (by decide) (by omega) (by omega) (fun μ' hF he => ?_)
  refine gl_if_ne (y := mL_law L xs) (pc := 103) (tgt := 108) dL_law_103 (by decide) ⟨by decide, by decide⟩ (fun _ => ?_) (fun h => absurd h (by decide))
  exact law_108 hL ht hn (LW_fore hW hF he) K
set_option maxRecDepth 8000 in
theorem law_39 (hL : L ≤ 300)
    (END : ∀ ad n Lk μ, Lk.length ≤ 46 → LW 2760 n Lk μ → gl D cy X0 293 ad (lF cy ad Lk) 10 kc0 ks0 (mL_law L xs) PQ PX 173 [.ref 6000, .ref 0, .ref 276, .ref 402, .int (iI (Lk.length : Nat)), .null, .null, .null, .null] [] μ) :
    ∀ (j t : Nat), t + j = 46 → ∀ (ad : Nat → Nat) (n : Nat) (Lk : kpL) (μ : Mem), Lk.length ≤ t → LW (60 * t) n Lk μ → gl D cy X0 293 ad (lF cy ad Lk) 10 (35 * j + kc0) (776 * j + ks0) (mL_law L xs) PQ PX 39 [.ref 6000, .ref 0, .ref 276, .ref 402, .int (iI (Lk.length : Nat)), .int (iI (t : Nat)), .null, .null, .null] [] μ := by
  intro j
  induction j with
  | zero =>
    intro t ht ad n Lk μ hn hW
    refine gl_less (kc' := kc0) (ks' := ks0) (by omega) (by omega) ?_
    refine gl_iload (y := mL_law L xs) (pc := 39) (v := (t : Int)) dL_law_39 rfl ?_
    refine gl_bipush (y := mL_law L xs) (pc := 41) dL_law_41 (by decide) ?_
    refine gl_icmp_ge (y := mL_law L xs) (pc := 43) (tgt := 173) dL_law_43 (by decide) ⟨by omega, by omega⟩ ⟨by decide, by decide⟩ (fun _ => ?_) (fun h => absurd h (by omega))
    refine gl_null 5 ?_
    exact END ad n Lk μ (by omega) (LW_mono hW (by omega))
  | succ j ih =>
    intro t ht ad n Lk μ hn hW
    refine gl_less (kc' := 35 + (35 * j + kc0)) (ks' := 776 + (776 * j + ks0)) (by omega) (by omega) ?_
    refine gl_iload (y := mL_law L xs) (pc := 39) (v := (t : Int)) dL_law_39 rfl ?_
    refine gl_bipush (y := mL_law L xs) (pc := 41) dL_law_41 (by decide) ?_
    refine gl_icmp_ge (y := mL_law L xs) (pc := 43) (tgt := 173) dL_law_43 (by decide) ⟨by omega, by omega⟩ ⟨by decide, by decide⟩ (fun h => absurd h (by omega)) (fun _ => ?_)
    refine gl_bipush (y := mL_law L xs) (pc := 46) dL_law_46 (by decide) ?_
    refine gl_iconst (y := mL_law L xs) (pc := 48) dL_law_48 ?_
    refine gl_iload (y := mL_law L xs) (pc := 49) (v := (t : Int)) dL_law_49 rfl ?_
    refine gl_imul (y := mL_law L xs) (pc := 51) dL_law_51 ?_
    refine gl_iadd (y := mL_law L xs) (pc := 52) dL_law_52 ?_
    refine gl_top (y := mL_law L xs) (b := ((48 + 4 * t : Nat) : Int)) (by omega) (fun _ => ?_)
    refine gl_istore (y := mL_law L xs) (pc := 53) dL_law_53 (show 6 < 9 by decide) ?_
    exact law_55 hL (by omega) hn hW (fun ad' n' Lk' μ' h1 h2 => ih (t + 1) (by omega) ad' n' Lk' μ' h1 (by rw [show ((t + 1 : Nat) : Int) = (t : Int) + 1 from rfl]; exact h2))
end Law3
