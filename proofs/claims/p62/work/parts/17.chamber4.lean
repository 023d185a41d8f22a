/-! what the minutes keep -/
theorem wf_0 {S s : Mem} {j : Nat} {v : Int} (hC : wfC S s) (hj : j ≠ 6) : wfC S (wr s 0 j v) := by
  obtain ⟨⟨a1, a2, a3, a4, a5, a6, a7⟩, b, c, d, e, f⟩ := hC
  have o : ∀ r i, r ≠ 0 → wr s 0 j v r i = s r i := fun r i hr => wr_na hr
  have l : ∀ m q, ln (wr s 0 j v) m q = ln s m q := fun m q => wr_na (by decide)
  have o6 : wr s 0 j v 0 6 = s 0 6 := wr_ni (by omega)
  refine ⟨⟨by rw [o 5 0 (by decide)]; exact a1, by rw [o 5 0 (by decide)]; exact a2, by rw [o 11 0 (by decide)]; exact a3, by rw [o 11 0 (by decide)]; exact a4, by rw [o6]; exact a5, by rw [o6]; exact a6, by rw [mrs_c (fun j _ => o 20 j (by decide))]; exact a7⟩, fun m hm => ?_, fun q hq => ?_, fun r hr => ?_, fun r k hr hk => ?_, fun i hi => ?_⟩
  · rw [o 2 m (by decide), o 3 m (by decide)]; exact b m hm
  · rw [o 5 0 (by decide)] at hq
    rw [o 6 q (by decide), o 7 q (by decide), o 8 q (by decide), o 9 q (by decide)]
    simp only [l]
    exact c q hq
  · rw [o 11 0 (by decide)] at hr
    rw [o 12 r (by decide), o 13 r (by decide), o 14 r (by decide), o 5 0 (by decide)]
    exact d r hr
  · rw [o 11 0 (by decide)] at hr hk
    rw [o 12 r (by decide), o 12 k (by decide)]
    exact e r k hr hk
  · rw [o 16 i (by decide), o 17 i (by decide), o 18 i (by decide), o 19 i (by decide), o 20 i (by decide), o 5 0 (by decide)]
    exact f i hi
theorem dry_o {s : Mem} {r j : Nat} (h : r ≠ 8) : dry s r j = s r j := if_neg (fun w => h w.1)
theorem wf_dry {S s : Mem} (hC : wfC S s) : wfC S (dry s) := by
  obtain ⟨⟨a1, a2, a3, a4, a5, a6, a7⟩, b, c, d, e, f⟩ := hC
  have o : ∀ r i, r ≠ 8 → dry s r i = s r i := fun r i hr => dry_o hr
  have l : ∀ m q, ln (dry s) m q = ln s m q := fun m q => dry_o (by decide)
  refine ⟨⟨by rw [o 5 0 (by decide)]; exact a1, by rw [o 5 0 (by decide)]; exact a2, by rw [o 11 0 (by decide)]; exact a3, by rw [o 11 0 (by decide)]; exact a4, by rw [o 0 6 (by decide)]; exact a5, by rw [o 0 6 (by decide)]; exact a6, by rw [mrs_c (fun j _ => o 20 j (by decide))]; exact a7⟩, fun m hm => ?_, fun q hq => ?_, fun r hr => ?_, fun r k hr hk => ?_, fun i hi => ?_⟩
  · rw [o 2 m (by decide), o 3 m (by decide)]; exact b m hm
  · rw [o 5 0 (by decide)] at hq
    rw [o 6 q (by decide), o 7 q (by decide), o 9 q (by decide)]
    simp only [l]
    have h8 : 0 ≤ dry s 8 q ∧ dry s 8 q ≤ 9 := by
      have := c q hq
      unfold dry dry_k
      split <;> omega
    have hc := c q hq
    exact ⟨hc.1, hc.2.1, hc.2.2.1, hc.2.2.2.1, h8.1, h8.2, hc.2.2.2.2.2.2⟩
  · rw [o 11 0 (by decide)] at hr
    rw [o 12 r (by decide), o 13 r (by decide), o 14 r (by decide), o 5 0 (by decide)]
    exact d r hr
  · rw [o 11 0 (by decide)] at hr hk
    rw [o 12 r (by decide), o 12 k (by decide)]
    exact e r k hr hk
  · rw [o 16 i (by decide), o 17 i (by decide), o 18 i (by decide), o 19 i (by decide), o 20 i (by decide), o 5 0 (by decide)]
    exact f i hi
theorem wf_pm1 {S s : Mem} (hC : wfC S s) : wfC S (pm1 S s) := by
  unfold pm1
  split
  · exact wf_dry (wf_0 hC (by decide))
  · exact wf_0 hC (by decide)
theorem wf_pek {S s : Mem} (hS : wfS S) (hC : wfC S s) : ∀ k : Nat, (k : Int) ≤ S 0 0 → wfC S (pek S s k).1 ∧ 0 ≤ (pek S s k).2 ∧ (pek S s k).2 ≤ k
  | 0, _ => ⟨hC, by simp [pek], by simp [pek]⟩
  | k + 1, hk => by
    have ih := wf_pek hS hC k (by omega)
    have h4 : k < 4 := by have := hS.2.1; omega
    have hX := ih.1.2.2.2.2.2 k h4
    rw [pek]
    by_cases h1 : (pek S s k).1 16 k = -1
    · rw [if_pos h1]; exact ⟨ih.1, by omega, by omega⟩
    · rw [if_neg h1]
      have hw : wp ((pek S s k).1 19 k - 1) = (pek S s k).1 19 k - 1 := wp_of ⟨by omega, by omega⟩
      rw [hw]
      by_cases h2 : (pek S s k).1 19 k - 1 = 0
      · rw [if_pos h2]; exact ⟨wf_esp hS ih.1 h4 h1, by show 0 ≤ (pek S s k).2 + 1; omega, by show (pek S s k).2 + 1 ≤ _; omega⟩
      · rw [if_neg h2]; exact ⟨wf_dec ih.1 h4 h1 h2, by show 0 ≤ (pek S s k).2; omega, by show (pek S s k).2 ≤ _; omega⟩
theorem wf_pfk {S s : Mem} (hS : wfS S) (hC : wfC S s) : ∀ k : Nat, (k : Int) ≤ S 0 0 → wfC S (pfk S s k)
  | 0, _ => hC
  | k + 1, hk => by
    have ih := wf_pfk hS hC k (by omega)
    rw [pfk]
    split
    · rename_i h
      have := fsl_b (S := S) (s := pfk S s k) (rk := pfk S s k 0 6) ih.1.2.2.1
      exact wf_spk hS ih (by omega) h.1 (by omega)
    · exact ih
theorem wf_pmn {S s : Mem} (hS : wfS S) (hC : wfC S s) : wfC S (pmn S s) := by
  have := hS.1
  exact wf_pfk hS (wf_pek hS (wf_pm1 hC) _ (by omega)).1 _ (by omega)
theorem pme_b {S s : Mem} (hS : wfS S) (hC : wfC S s) : 0 ≤ pme S s ∧ pme S s ≤ 4 := by
  have h1 := hS.1
  have h2 := hS.2.1
  have := (wf_pek hS (wf_pm1 hC) (S 0 0).toNat (by omega)).2
  unfold pme
  omega
theorem wf_pms {S s : Mem} (hS : wfS S) (hC : wfC S s) : ∀ k : Nat, wfC S (pms S s k).1 ∧ 0 ≤ (pms S s k).2 ∧ (pms S s k).2 ≤ 4 * k
  | 0 => ⟨hC, by simp [pms], by simp [pms]⟩
  | k + 1 => by
    have ih := wf_pms hS hC k
    have hb := pme_b hS ih.1
    rw [pms]
    exact ⟨wf_pmn hS ih.1, by show 0 ≤ (pms S s k).2 + pme S (pms S s k).1; omega, by show (pms S s k).2 + pme S (pms S s k).1 ≤ _; omega⟩
theorem pk6 {S s : Mem} : ∀ k : Nat, (pek S s k).1 0 6 = s 0 6
  | 0 => rfl
  | k + 1 => by
    rw [pek]
    split
    · exact pk6 k
    · split
      · show esp S _ k 0 6 = _
        rw [esp_o (by decide), wr_na (by decide), pk6 k]
      · show wr (pek S s k).1 19 k (wp ((pek S s k).1 19 k - 1)) 0 6 = _
        rw [wr_na (by decide), pk6 k]
set_option maxRecDepth 8000 in
set_option maxHeartbeats 4000000 in
theorem c_passMinute {c : Nat} (hc : is_ch c) {σ μ : Mem} (hS : wfS (su μ)) (hC : wfC (su μ) σ) {Q : Option Value → Mem → Prop} {X : String → Mem → Prop} (K : Q (some (.int (iI (pme (su μ) σ)))) (put c (pmn (su μ) σ) μ)) : mt 276 3 0 0 mX1_passMinute [.ref c] Q X (put c σ μ) := by
  show go 276 3 0 0 mX1_passMinute Q X 0 [.ref c, .null, .null, .null] [] _
  have c1 := hS.1
  have c4 := hS.2.1
  have d2 := hS.2.2.2.2.2.2.2.2.1
  have d30 := hS.2.2.2.2.2.2.2.2.2.1
  have hC1 := wf_pm1 hC
  unfold pme pmn at K
  have loop2 : ∀ (n k : Nat) (u : Value), (k : Int) + n = su μ 0 0 → go 276 3 0 0 mX1_passMinute Q X 109 [.ref c, .int (iI ((pek (su μ) (pm1 (su μ) σ) (su μ 0 0).toNat).2)), .int (iI (k : Nat)), u] [] (put c (pfk (su μ) (pek (su μ) (pm1 (su μ) σ) (su μ 0 0).toNat).1 k) μ) := by
    intro n
    induction n using Nat.strongRecOn with
    | _ n ih =>
      intro k u hk
      have ih' := ih (n - 1)
      have hk2 := wf_pfk hS (wf_pek hS hC1 (su μ 0 0).toNat (by omega)).1 k (by omega)
      revert ih'
      revert K
      generalize (pek (su μ) (pm1 (su μ) σ) (su μ 0 0).toNat).1 = τ at hk2 ⊢
      generalize (pek (su μ) (pm1 (su μ) σ) (su μ 0 0).toNat).2 = ε at hk2 ⊢
      intro K ih'
      refine go_iload_n (y := mX1_passMinute) (pc := 109) dX1_passMinute_109 rfl rfl ?_
      refine go_aload_n (y := mX1_passMinute) (pc := 110) dX1_passMinute_110 rfl rfl ?_
      refine go_getR (y := mX1_passMinute) (pc := 111) dX1_passMinute_111 fl_X1_39 (ch_sh hc 0 (by decide)) rfl (ch_z (r := 0) hc (by decide)) ?_
      refine go_sget (y := mX1_passMinute) (pc := 114) (r := 0) dX1_passMinute_114 fl_X1_215 hc (by decide) rfl rfl (by decide) (fun r114 => ?_)
      refine go_icmp_ge (y := mX1_passMinute) (pc := 117) (tgt := 157) dX1_passMinute_117 (by decide) (by omega) (by omega) (fun h117 => ?_) (fun h117 => ?_)
      · skip
        refine go_iload_n (y := mX1_passMinute) (pc := 157) dX1_passMinute_157 rfl rfl ?_
        refine go_ireturn (y := mX1_passMinute) (pc := 158) dX1_passMinute_158 rfl ?_
        have e : k = (su μ 0 0).toNat := by omega
        subst e
        exact K
      · skip
        refine go_aload_n (y := mX1_passMinute) (pc := 120) dX1_passMinute_120 rfl rfl ?_
        refine go_aload_n (y := mX1_passMinute) (pc := 121) dX1_passMinute_121 rfl rfl ?_
        refine go_cget (y := mX1_passMinute) (pc := 122) (r := 0) dX1_passMinute_122 fl_X1_57 hc (by decide) rfl rfl (by decide) (fun r122 => ?_)
        refine go_top (b := pfk (su μ) τ k 0 6) (rfl) (fun t122 => ?_)
        refine go_callV1 (y := mX1_passMinute) (pc := 125) (y' := mX1_firstPlace) (kc2 := 0) (ks2 := 0) dX1_passMinute_125 ml_X1_220 ok_X1_firstPlace (ch_sh hc 0 (by decide)) ⟨_, _, rfl⟩ (ch_z (r := 0) hc (by decide)) rfl (by decide) (Nat.le_of_ble_eq_true rfl) rfl (c_firstPlace hc (by omega) hS hk2 (fun v125 e125 b125 => ?_))
        refine go_istore_n (y := mX1_passMinute) (pc := 128) dX1_passMinute_128 rfl (by decide) ?_
        refine go_aload_n (y := mX1_passMinute) (pc := 129) dX1_passMinute_129 rfl rfl ?_
        refine go_getR (y := mX1_passMinute) (pc := 130) dX1_passMinute_130 fl_X1_35 (ch_sh hc 0 (by decide)) rfl (ch_z (r := 0) hc (by decide)) ?_
        refine go_iload_n (y := mX1_passMinute) (pc := 133) dX1_passMinute_133 rfl rfl ?_
        refine go_callV1 (y := mX1_passMinute) (pc := 134) (y' := mX0_isFree) (kc2 := 0) (ks2 := 0) dX1_passMinute_134 ml_X1_148 ok_X0_isFree (ch_sh hc 15 (by decide)) ⟨_, _, rfl⟩ (ch_z (r := 15) hc (by decide)) rfl (by decide) (Nat.le_of_ble_eq_true rfl) rfl (c_isFree hc (h := k) (by omega) (fun v134 e134 b134 => ?_))
        refine go_if_eq (y := mX1_passMinute) (pc := 137) (tgt := 151) dX1_passMinute_137 (by decide) (by omega) (fun h137 => ?_) (fun h137 => ?_)
        · skip
          refine go_iinc (y := mX1_passMinute) (pc := 151) dX1_passMinute_151 rfl (by decide) ?_
          refine go_goto (y := mX1_passMinute) (pc := 154) (tgt := 109) dX1_passMinute_154 (by decide) ?_
          have h := ih' (by omega) (k + 1) (.int (iI v125)) (by omega)
          rw [pfk, if_neg (fun w => bI_0 e134 h137 w.1)] at h
          exact h
        · skip
          refine go_iload_n (y := mX1_passMinute) (pc := 140) dX1_passMinute_140 rfl rfl ?_
          refine go_iconst (y := mX1_passMinute) (pc := 141) dX1_passMinute_141 ?_
          refine go_icmp_eq (y := mX1_passMinute) (pc := 142) (tgt := 151) dX1_passMinute_142 (by decide) (by omega) (by omega) (fun h142 => ?_) (fun h142 => ?_)
          · skip
            refine go_iinc (y := mX1_passMinute) (pc := 151) dX1_passMinute_151 rfl (by decide) ?_
            refine go_goto (y := mX1_passMinute) (pc := 154) (tgt := 109) dX1_passMinute_154 (by decide) ?_
            have h := ih' (by omega) (k + 1) (.int (iI v125)) (by omega)
            rw [pfk, if_neg (fun w => w.2 (e125 ▸ h142))] at h
            exact h
          · skip
            obtain ⟨p, hp⟩ := Int.eq_ofNat_of_zero_le (show 0 ≤ v125 by omega)
            have ep : (fsl (su μ) (pfk (su μ) τ k) (pfk (su μ) τ k 0 6)).toNat = p := by rw [← e125]; omega
            refine go_aload_n (y := mX1_passMinute) (pc := 145) dX1_passMinute_145 rfl rfl ?_
            refine go_iload_n (y := mX1_passMinute) (pc := 146) dX1_passMinute_146 rfl rfl ?_
            refine go_iload_n (y := mX1_passMinute) (pc := 147) dX1_passMinute_147 rfl rfl ?_
            refine go_top (b := ((p : Nat) : Int)) (hp) (fun t147 => ?_)
            refine go_callV2 (y := mX1_passMinute) (pc := 148) (y' := mX1_startSpeech) (kc2 := 0) (ks2 := 0) dX1_passMinute_148 ml_X1_223 ok_X1_startSpeech (ch_sh hc 0 (by decide)) ⟨_, _, rfl⟩ (ch_z (r := 0) hc (by decide)) ⟨rfl, rfl⟩ (by decide) (Nat.le_of_ble_eq_true rfl) rfl (c_startSpeech hc (h := k) (p := p) (by omega) hS hk2 (by omega) ?_)
            refine go_iinc (y := mX1_passMinute) (pc := 151) dX1_passMinute_151 rfl (by decide) ?_
            refine go_goto (y := mX1_passMinute) (pc := 154) (tgt := 109) dX1_passMinute_154 (by decide) ?_
            have h := ih' (by omega) (k + 1) (.int (iI v125)) (by omega)
            rw [pfk, if_pos ⟨bI_1 e134 h137, fun w => h142 (e125.trans w)⟩, ep] at h
            exact h
  have loop1 : ∀ (n k : Nat), (k : Int) + n = su μ 0 0 → go 276 3 0 0 mX1_passMinute Q X 46 [.ref c, .int (iI ((pek (su μ) (pm1 (su μ) σ) k).2)), .int (iI (k : Nat)), .null] [] (put c (pek (su μ) (pm1 (su μ) σ) k).1 μ) := by
    intro n
    induction n using Nat.strongRecOn with
    | _ n ih =>
      intro k hk
      have ih' := ih (n - 1)
      have hw := wf_pek hS hC1 k (by omega)
      refine go_iload_n (y := mX1_passMinute) (pc := 46) dX1_passMinute_46 rfl rfl ?_
      refine go_aload_n (y := mX1_passMinute) (pc := 47) dX1_passMinute_47 rfl rfl ?_
      refine go_getR (y := mX1_passMinute) (pc := 48) dX1_passMinute_48 fl_X1_39 (ch_sh hc 0 (by decide)) rfl (ch_z (r := 0) hc (by decide)) ?_
      refine go_sget (y := mX1_passMinute) (pc := 51) (r := 0) dX1_passMinute_51 fl_X1_215 hc (by decide) rfl rfl (by decide) (fun r51 => ?_)
      refine go_icmp_ge (y := mX1_passMinute) (pc := 54) (tgt := 107) dX1_passMinute_54 (by decide) (by omega) (by omega) (fun h54 => ?_) (fun h54 => ?_)
      · skip
        refine go_iconst (y := mX1_passMinute) (pc := 107) dX1_passMinute_107 ?_
        refine go_istore_n (y := mX1_passMinute) (pc := 108) dX1_passMinute_108 rfl (by decide) ?_
        have e : k = (su μ 0 0).toNat := by omega
        subst e
        exact loop2 (su μ 0 0).toNat 0 _ (by omega)
      · skip
        have hk4 : k < 4 := by omega
        have hX := hw.1.2.2.2.2.2 k hk4
        refine go_aload_n (y := mX1_passMinute) (pc := 57) dX1_passMinute_57 rfl rfl ?_
        refine go_getR (y := mX1_passMinute) (pc := 58) dX1_passMinute_58 fl_X1_35 (ch_sh hc 0 (by decide)) rfl (ch_z (r := 0) hc (by decide)) ?_
        refine go_iload_n (y := mX1_passMinute) (pc := 61) dX1_passMinute_61 rfl rfl ?_
        refine go_callV1 (y := mX1_passMinute) (pc := 62) (y' := mX0_isFree) (kc2 := 0) (ks2 := 0) dX1_passMinute_62 ml_X1_148 ok_X0_isFree (ch_sh hc 15 (by decide)) ⟨_, _, rfl⟩ (ch_z (r := 15) hc (by decide)) rfl (by decide) (Nat.le_of_ble_eq_true rfl) rfl (c_isFree hc (h := k) (by omega) (fun v62 e62 b62 => ?_))
        refine go_if_ne (y := mX1_passMinute) (pc := 65) (tgt := 101) dX1_passMinute_65 (by decide) (by omega) (fun h65 => ?_) (fun h65 => ?_)
        · skip
          refine go_iinc (y := mX1_passMinute) (pc := 101) dX1_passMinute_101 rfl (by decide) ?_
          refine go_goto (y := mX1_passMinute) (pc := 104) (tgt := 46) dX1_passMinute_104 (by decide) ?_
          have h := ih' (by omega) (k + 1) (by omega)
          rw [pek, if_pos (bI_1 e62 h65)] at h
          exact h
        · skip
          have h16 := bI_0 e62 h65
          refine go_aload_n (y := mX1_passMinute) (pc := 68) dX1_passMinute_68 rfl rfl ?_
          refine go_getR (y := mX1_passMinute) (pc := 69) dX1_passMinute_69 fl_X1_35 (ch_sh hc 0 (by decide)) rfl (ch_z (r := 0) hc (by decide)) ?_
          refine go_getR (y := mX1_passMinute) (pc := 72) dX1_passMinute_72 fl_X1_190 (ch_sh hc 15 (by decide)) rfl (ch_z (r := 15) hc (by decide)) ?_
          refine go_iload_n (y := mX1_passMinute) (pc := 75) dX1_passMinute_75 rfl rfl ?_
          refine go_dup2 (y := mX1_passMinute) (pc := 76) dX1_passMinute_76 rfl rfl ?_
          refine go_cial (y := mX1_passMinute) (pc := 77) (r := 19) (k := k) dX1_passMinute_77 hc (by decide) rfl (by decide) rfl (by omega) (by decide) (fun r77 => ?_)
          refine go_iconst (y := mX1_passMinute) (pc := 78) dX1_passMinute_78 ?_
          refine go_isub (y := mX1_passMinute) (pc := 79) dX1_passMinute_79 ?_
          refine go_ciasW (y := mX1_passMinute) (pc := 80) (r := 19) (k := k) dX1_passMinute_80 hc (by decide) rfl (by decide) rfl (by omega) (by decide)  ?_
          refine go_aload_n (y := mX1_passMinute) (pc := 81) dX1_passMinute_81 rfl rfl ?_
          refine go_getR (y := mX1_passMinute) (pc := 82) dX1_passMinute_82 fl_X1_35 (ch_sh hc 0 (by decide)) rfl (ch_z (r := 0) hc (by decide)) ?_
          refine go_getR (y := mX1_passMinute) (pc := 85) dX1_passMinute_85 fl_X1_190 (ch_sh hc 15 (by decide)) rfl (ch_z (r := 15) hc (by decide)) ?_
          refine go_iload_n (y := mX1_passMinute) (pc := 88) dX1_passMinute_88 rfl rfl ?_
          refine go_cial (y := mX1_passMinute) (pc := 89) (r := 19) (k := k) dX1_passMinute_89 hc (by decide) rfl (by decide) rfl (by omega) (by decide) (fun r89 => ?_)
          refine go_top (b := wp ((pek (su μ) (pm1 (su μ) σ) k).1 19 k - 1)) (wr_s _ _ _ _) (fun t89 => ?_)
          refine go_if_ne (y := mX1_passMinute) (pc := 90) (tgt := 101) dX1_passMinute_90 (by decide) (by omega) (fun h90 => ?_) (fun h90 => ?_)
          · skip
            refine go_iinc (y := mX1_passMinute) (pc := 101) dX1_passMinute_101 rfl (by decide) ?_
            refine go_goto (y := mX1_passMinute) (pc := 104) (tgt := 46) dX1_passMinute_104 (by decide) ?_
            have h := ih' (by omega) (k + 1) (by omega)
            rw [pek, if_neg h16, if_neg h90] at h
            exact h
          · skip
            obtain ⟨sp, hsp⟩ := Int.eq_ofNat_of_zero_le (show 0 ≤ (pek (su μ) (pm1 (su μ) σ) k).1 16 k by omega)
            obtain ⟨q, hq⟩ := Int.eq_ofNat_of_zero_le (show 0 ≤ (pek (su μ) (pm1 (su μ) σ) k).1 17 k by omega)
            have hq16 := hw.1.1.2.1
            have hqc := hw.1.2.2.1 q (by omega)
            refine go_aload_n (y := mX1_passMinute) (pc := 93) dX1_passMinute_93 rfl rfl ?_
            refine go_iload_n (y := mX1_passMinute) (pc := 94) dX1_passMinute_94 rfl rfl ?_
            refine go_callV1 (y := mX1_passMinute) (pc := 95) (y' := mX1_endSpeech) (kc2 := 0) (ks2 := 0) dX1_passMinute_95 ml_X1_217 ok_X1_endSpeech (ch_sh hc 0 (by decide)) ⟨_, _, rfl⟩ (ch_z (r := 0) hc (by decide)) rfl (by decide) (Nat.le_of_ble_eq_true rfl) rfl (c_endSpeech hc (h := k) (sp := sp) (q := q) hk4 hS ((wr_na (by decide)).trans hsp) (by omega) ((wr_na (by decide)).trans hq) (by omega) (by rw [wr_na (by decide)]; omega) (by rw [wr_na (by decide)]; exact ⟨hqc.2.2.2.2.1, hqc.2.2.2.2.2.1⟩) (fun m hm => by unfold ln; rw [wr_na (by decide)]; exact hqc.2.2.2.2.2.2.2.2 m hm) ?_)
            refine go_iinc (y := mX1_passMinute) (pc := 98) dX1_passMinute_98 rfl (by decide) ?_
            refine go_iinc (y := mX1_passMinute) (pc := 101) dX1_passMinute_101 rfl (by decide) ?_
            refine go_goto (y := mX1_passMinute) (pc := 104) (tgt := 46) dX1_passMinute_104 (by decide) ?_
            have h := ih' (by omega) (k + 1) (by omega)
            rw [pek, if_neg h16, if_pos h90] at h
            exact h
  have J42 : ∀ τ : Mem, τ = pm1 (su μ) σ → go 276 3 0 0 mX1_passMinute Q X 42 [.ref c, .null, .null, .null] [] (put c τ μ) := by
    intro τ hτ
    rw [hτ]
    refine go_iconst (y := mX1_passMinute) (pc := 42) dX1_passMinute_42 ?_
    refine go_istore_n (y := mX1_passMinute) (pc := 43) dX1_passMinute_43 rfl (by decide) ?_
    refine go_iconst (y := mX1_passMinute) (pc := 44) dX1_passMinute_44 ?_
    refine go_istore_n (y := mX1_passMinute) (pc := 45) dX1_passMinute_45 rfl (by decide) ?_
    exact loop1 (su μ 0 0).toNat 0 (by omega)
  refine go_aload_n (y := mX1_passMinute) (pc := 0) dX1_passMinute_0 rfl rfl ?_
  refine go_dup (y := mX1_passMinute) (pc := 1) dX1_passMinute_1 rfl ?_
  refine go_cget (y := mX1_passMinute) (pc := 2) (r := 0) dX1_passMinute_2 fl_X1_54 hc (by decide) rfl rfl (by decide) (fun r2 => ?_)
  refine go_iconst (y := mX1_passMinute) (pc := 5) dX1_passMinute_5 ?_
  refine go_iadd (y := mX1_passMinute) (pc := 6) dX1_passMinute_6 ?_
  refine go_cputW (y := mX1_passMinute) (pc := 7) (r := 0) dX1_passMinute_7 fp_X1_54 hc (by decide) rfl rfl (by decide)  ?_
  refine go_aload_n (y := mX1_passMinute) (pc := 10) dX1_passMinute_10 rfl rfl ?_
  refine go_getR (y := mX1_passMinute) (pc := 11) dX1_passMinute_11 fl_X1_39 (ch_sh hc 0 (by decide)) rfl (ch_z (r := 0) hc (by decide)) ?_
  refine go_sget (y := mX1_passMinute) (pc := 14) (r := 0) dX1_passMinute_14 fl_X1_209 hc (by decide) rfl rfl (by decide) (fun r14 => ?_)
  refine go_if_le (y := mX1_passMinute) (pc := 17) (tgt := 42) dX1_passMinute_17 (by decide) (by omega) (fun h17 => ?_) (fun h17 => ?_)
  · skip
    exact absurd h17 (by omega)
  · skip
    refine go_aload_n (y := mX1_passMinute) (pc := 20) dX1_passMinute_20 rfl rfl ?_
    refine go_cget (y := mX1_passMinute) (pc := 21) (r := 0) dX1_passMinute_21 fl_X1_54 hc (by decide) rfl rfl (by decide) (fun r21 => ?_)
    refine go_top (b := wp (σ 0 5 + 1)) (wr_s _ _ _ _) (fun t21 => ?_)
    have w21 := wp_rng (σ 0 5 + 1)
    refine go_aload_n (y := mX1_passMinute) (pc := 24) dX1_passMinute_24 rfl rfl ?_
    refine go_getR (y := mX1_passMinute) (pc := 25) dX1_passMinute_25 fl_X1_39 (ch_sh hc 0 (by decide)) rfl (ch_z (r := 0) hc (by decide)) ?_
    refine go_sget (y := mX1_passMinute) (pc := 28) (r := 0) dX1_passMinute_28 fl_X1_209 hc (by decide) rfl rfl (by decide) (fun r28 => ?_)
    refine go_irem (y := mX1_passMinute) (pc := 31) dX1_passMinute_31 (by omega) (by omega) (by omega) ?_
    refine go_top (b := (wp (σ 0 5 + 1)).tmod (su μ 0 4)) (by have := Int.tmod_add_mul_tdiv (wp (σ 0 5 + 1)) (su μ 0 4); rw [Int.mul_comm] at this; omega) (fun t31 => ?_)
    refine go_if_ne (y := mX1_passMinute) (pc := 32) (tgt := 42) dX1_passMinute_32 (by decide) (by have h1 := Int.tmod_lt_of_pos (wp (σ 0 5 + 1)) (show 0 < su μ 0 4 by omega); have h2 := Int.lt_tmod_of_pos (wp (σ 0 5 + 1)) (show 0 < su μ 0 4 by omega); constructor <;> omega) (fun h32 => ?_) (fun h32 => ?_)
    · skip
      exact J42 _ (by unfold pm1; rw [if_neg (fun w => h32 w.2)])
    · skip
      refine go_aload_n (y := mX1_passMinute) (pc := 35) dX1_passMinute_35 rfl rfl ?_
      refine go_getR (y := mX1_passMinute) (pc := 36) dX1_passMinute_36 fl_X1_21 (ch_sh hc 0 (by decide)) rfl (ch_z (r := 0) hc (by decide)) ?_
      refine go_callV0 (y := mX1_passMinute) (pc := 39) (y' := mX4_dry) (kc2 := 0) (ks2 := 0) dX1_passMinute_39 ml_X1_212 ok_X4_dry (ch_sh hc 5 (by decide)) ⟨_, _, rfl⟩ (ch_z (r := 5) hc (by decide)) trivial (by decide) (Nat.le_of_ble_eq_true rfl) rfl (c_dry hc (by rw [wr_na (by decide)]; exact hC.1.1) (by rw [wr_na (by decide)]; exact hC.1.2.1) ?_)
      exact J42 _ (by unfold pm1; rw [if_pos ⟨by omega, h32⟩])
set_option maxRecDepth 8000 in
set_option maxHeartbeats 4000000 in
theorem c_passMinutes {c : Nat} (hc : is_ch c) {σ μ : Mem} (hS : wfS (su μ)) (hC : wfC (su μ) σ) {n : Nat} (hn : n ≤ 300) {Q : Option Value → Mem → Prop} {X : String → Mem → Prop} (K : Q (some (.int (iI (pms (su μ) σ n).2))) (put c (pms (su μ) σ n).1 μ)) : mt 276 4 0 0 mX1_passMinutes [.ref c, .int (iI (n : Nat))] Q X (put c σ μ) := by
  show go 276 4 0 0 mX1_passMinutes Q X 0 [.ref c, .int (iI (n : Nat)), .null, .null] [] _
  have loop : ∀ (j k : Nat), k + j = n → go 276 4 0 0 mX1_passMinutes Q X 4 [.ref c, .int (iI (n : Nat)), .int (iI ((pms (su μ) σ k).2)), .int (iI (k : Nat))] [] (put c (pms (su μ) σ k).1 μ) := by
    intro j
    induction j using Nat.strongRecOn with
    | _ j ih =>
      intro k hk
      have hw := wf_pms hS hC k
      refine go_iload_n (y := mX1_passMinutes) (pc := 4) dX1_passMinutes_4 rfl rfl ?_
      refine go_iload_n (y := mX1_passMinutes) (pc := 5) dX1_passMinutes_5 rfl rfl ?_
      refine go_icmp_ge (y := mX1_passMinutes) (pc := 6) (tgt := 22) dX1_passMinutes_6 (by decide) (by omega) (by omega) (fun h6 => ?_) (fun h6 => ?_)
      · skip
        refine go_iload_n (y := mX1_passMinutes) (pc := 22) dX1_passMinutes_22 rfl rfl ?_
        refine go_ireturn (y := mX1_passMinutes) (pc := 23) dX1_passMinutes_23 rfl ?_
        have e : k = n := by omega
        subst e
        exact K
      · skip
        refine go_iload_n (y := mX1_passMinutes) (pc := 9) dX1_passMinutes_9 rfl rfl ?_
        refine go_aload_n (y := mX1_passMinutes) (pc := 10) dX1_passMinutes_10 rfl rfl ?_
        refine go_callV0 (y := mX1_passMinutes) (pc := 11) (y' := mX1_passMinute) (kc2 := 0) (ks2 := 0) dX1_passMinutes_11 ml_X1_206 ok_X1_passMinute (ch_sh hc 0 (by decide)) ⟨_, _, rfl⟩ (ch_z (r := 0) hc (by decide)) trivial (by decide) (Nat.le_of_ble_eq_true rfl) rfl (c_passMinute hc hS hw.1 ?_)
        refine go_iadd (y := mX1_passMinutes) (pc := 14) dX1_passMinutes_14 ?_
        refine go_istore_n (y := mX1_passMinutes) (pc := 15) dX1_passMinutes_15 rfl (by decide) ?_
        refine go_iinc (y := mX1_passMinutes) (pc := 16) dX1_passMinutes_16 rfl (by decide) ?_
        refine go_goto (y := mX1_passMinutes) (pc := 19) (tgt := 4) dX1_passMinutes_19 (by decide) ?_
        exact ih (j - 1) (by omega) (k + 1) (by omega)
  refine go_iconst (y := mX1_passMinutes) (pc := 0) dX1_passMinutes_0 ?_
  refine go_istore_n (y := mX1_passMinutes) (pc := 1) dX1_passMinutes_1 rfl (by decide) ?_
  refine go_iconst (y := mX1_passMinutes) (pc := 2) dX1_passMinutes_2 ?_
  refine go_istore_n (y := mX1_passMinutes) (pc := 3) dX1_passMinutes_3 rfl (by decide) ?_
  exact loop n 0 (by omega)
