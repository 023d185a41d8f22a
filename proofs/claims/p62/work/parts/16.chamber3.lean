/-! CHAMBER: speeches, minutes -/
theorem rng_s {x : Int} (h : -1000 ≤ x ∧ x ≤ 100000) : rng x := ⟨by omega, by omega⟩
theorem rnk_r {S s : Mem} {r : Nat} {rk : Int} (hS : wfS S) (hC : wfC S s) (hr : (r : Int) < s 11 0) (h4 : ∀ m, rng (s 4 m)) : rng (rnk S s r rk) := by
  have hd := hC.2.2.2.1 r hr
  have hm := hS.2.2.2.2.2.2.2.2.2.2.2.2.2.2.2.2 (s 12 r).toNat (by omega)
  unfold rnk
  split
  · exact ⟨by omega, by omega⟩
  · split
    · exact h4 _
    · split
      · split <;> exact ⟨by decide, by decide⟩
      · exact ⟨by decide, by decide⟩
set_option maxRecDepth 8000 in
set_option maxHeartbeats 4000000 in
theorem c_rankOf {c : Nat} (hc : is_ch c) {σ μ : Mem} {r : Nat} {rk : Int} (hrk : rng rk) (hS : wfS (su μ)) (hC : wfC (su μ) σ) (hr : (r : Int) < σ 11 0) {Q : Option Value → Mem → Prop} {X : String → Mem → Prop} (K : ∀ v, v = rnk (su μ) σ r rk → rng v → Q (some (.int (iI v))) (put c σ μ)) : mt 276 0 0 0 mX1_rankOf [.ref c, .int (iI (r : Nat)), .int (iI rk)] Q X (put c σ μ) := by
  show go 276 0 0 0 mX1_rankOf Q X 0 [.ref c, .int (iI (r : Nat)), .int (iI rk), .null, .null] [] _
  have hd := hC.2.2.2.1 r hr
  have n2 : su μ 0 7 ≤ 12 := hS.2.2.2.2.2.2.2.2.2.2.2.2.2.2.2.1
  have hr12 : r < 12 := by have := hC.1.2.2.2.1; omega
  have hq16 := hC.1.2.1
  obtain ⟨m, hm⟩ := Int.eq_ofNat_of_zero_le hd.1
  obtain ⟨q, hq⟩ := Int.eq_ofNat_of_zero_le hd.2.2.1
  have hmw := hS.2.2.2.2.2.2.2.2.2.2.2.2.2.2.2.2 m (by omega)
  have em : (σ 12 r).toNat = m := by omega
  have eq : (σ 13 r).toNat = q := by omega
  refine go_aload_n (y := mX1_rankOf) (pc := 0) dX1_rankOf_0 rfl rfl ?_
  refine go_getR (y := mX1_rankOf) (pc := 1) dX1_rankOf_1 fl_X1_28 (ch_sh hc 0 (by decide)) rfl (ch_z (r := 0) hc (by decide)) ?_
  refine go_getR (y := mX1_rankOf) (pc := 4) dX1_rankOf_4 fl_X1_172 (ch_sh hc 11 (by decide)) rfl (ch_z (r := 11) hc (by decide)) ?_
  refine go_iload_n (y := mX1_rankOf) (pc := 7) dX1_rankOf_7 rfl rfl ?_
  refine go_cial (y := mX1_rankOf) (pc := 8) (r := 12) (k := r) dX1_rankOf_8 hc (by decide) rfl (by decide) rfl (by omega) (by decide) (fun r8 => ?_)
  refine go_top (b := ((m : Nat) : Int)) (hm) (fun t8 => ?_)
  refine go_istore_n (y := mX1_rankOf) (pc := 9) dX1_rankOf_9 rfl (by decide) ?_
  refine go_iload_n (y := mX1_rankOf) (pc := 10) dX1_rankOf_10 rfl rfl ?_
  by_cases h1 : rk = 1
  · subst h1
    refine go_tbIn (y := mX1_rankOf) (pc := 11) (off := 25) (tgt := 36) dX1_rankOf_11 (by decide) (by decide) (by decide) rfl (by decide) ?_
    refine go_aload_n (y := mX1_rankOf) (pc := 36) dX1_rankOf_36 rfl rfl ?_
    refine go_getR (y := mX1_rankOf) (pc := 37) dX1_rankOf_37 fl_X1_39 (ch_sh hc 0 (by decide)) rfl (ch_z (r := 0) hc (by decide)) ?_
    refine go_getR (y := mX1_rankOf) (pc := 40) dX1_rankOf_40 fl_X1_175 rfl rfl (by decide) ?_
    refine go_iload_n (y := mX1_rankOf) (pc := 43) dX1_rankOf_43 rfl rfl ?_
    refine go_sial (y := mX1_rankOf) (pc := 44) (r := 2) (k := m) dX1_rankOf_44 hc (by decide) rfl (by decide) rfl (by omega) (by decide) (fun r44 => ?_)
    refine go_ineg (y := mX1_rankOf) (pc := 45) dX1_rankOf_45 ?_
    refine go_ireturn (y := mX1_rankOf) (pc := 46) dX1_rankOf_46 rfl ?_
    exact K _ (by unfold rnk; rw [if_pos rfl, em]) ⟨by omega, by omega⟩
  · by_cases h2 : rk = 2
    · subst h2
      refine go_tbIn (y := mX1_rankOf) (pc := 11) (off := 36) (tgt := 47) dX1_rankOf_11 (by decide) (by decide) (by decide) rfl (by decide) ?_
      refine go_aload_n (y := mX1_rankOf) (pc := 47) dX1_rankOf_47 rfl rfl ?_
      refine go_getR (y := mX1_rankOf) (pc := 48) dX1_rankOf_48 fl_X1_12 (ch_sh hc 0 (by decide)) rfl (ch_z (r := 0) hc (by decide)) ?_
      refine go_getR (y := mX1_rankOf) (pc := 51) dX1_rankOf_51 fl_X1_178 (ch_sh hc 1 (by decide)) rfl (ch_z (r := 1) hc (by decide)) ?_
      refine go_iload_n (y := mX1_rankOf) (pc := 54) dX1_rankOf_54 rfl rfl ?_
      refine go_cial (y := mX1_rankOf) (pc := 55) (r := 4) (k := m) dX1_rankOf_55 hc (by decide) rfl (by decide) rfl (by omega) (by decide) (fun r55 => ?_)
      refine go_ireturn (y := mX1_rankOf) (pc := 56) dX1_rankOf_56 rfl ?_
      exact K _ (by unfold rnk; rw [if_neg (by decide), if_pos rfl, em]) (by assumption)
    · by_cases h3 : rk = 3
      · subst h3
        refine go_tbIn (y := mX1_rankOf) (pc := 11) (off := 46) (tgt := 57) dX1_rankOf_11 (by decide) (by decide) (by decide) rfl (by decide) ?_
        refine go_aload_n (y := mX1_rankOf) (pc := 57) dX1_rankOf_57 rfl rfl ?_
        refine go_getR (y := mX1_rankOf) (pc := 58) dX1_rankOf_58 fl_X1_21 (ch_sh hc 0 (by decide)) rfl (ch_z (r := 0) hc (by decide)) ?_
        refine go_getR (y := mX1_rankOf) (pc := 61) dX1_rankOf_61 fl_X1_101 (ch_sh hc 5 (by decide)) rfl (ch_z (r := 5) hc (by decide)) ?_
        refine go_aload_n (y := mX1_rankOf) (pc := 64) dX1_rankOf_64 rfl rfl ?_
        refine go_getR (y := mX1_rankOf) (pc := 65) dX1_rankOf_65 fl_X1_28 (ch_sh hc 0 (by decide)) rfl (ch_z (r := 0) hc (by decide)) ?_
        refine go_getR (y := mX1_rankOf) (pc := 68) dX1_rankOf_68 fl_X1_181 (ch_sh hc 11 (by decide)) rfl (ch_z (r := 11) hc (by decide)) ?_
        refine go_iload_n (y := mX1_rankOf) (pc := 71) dX1_rankOf_71 rfl rfl ?_
        refine go_cial (y := mX1_rankOf) (pc := 72) (r := 13) (k := r) dX1_rankOf_72 hc (by decide) rfl (by decide) rfl (by omega) (by decide) (fun r72 => ?_)
        refine go_top (b := ((q : Nat) : Int)) (hq) (fun t72 => ?_)
        refine go_cial (y := mX1_rankOf) (pc := 73) (r := 9) (k := q) dX1_rankOf_73 hc (by decide) rfl (by decide) rfl (by omega) (by decide) (fun r73 => ?_)
        refine go_istore (y := mX1_rankOf) (pc := 74) dX1_rankOf_74 (by decide) ?_
        refine go_iload (y := mX1_rankOf) (pc := 76) dX1_rankOf_76 rfl ?_
        refine go_aload_n (y := mX1_rankOf) (pc := 78) dX1_rankOf_78 rfl rfl ?_
        refine go_getR (y := mX1_rankOf) (pc := 79) dX1_rankOf_79 fl_X1_28 (ch_sh hc 0 (by decide)) rfl (ch_z (r := 0) hc (by decide)) ?_
        refine go_getR (y := mX1_rankOf) (pc := 82) dX1_rankOf_82 fl_X1_182 (ch_sh hc 11 (by decide)) rfl (ch_z (r := 11) hc (by decide)) ?_
        refine go_iload_n (y := mX1_rankOf) (pc := 85) dX1_rankOf_85 rfl rfl ?_
        refine go_cial (y := mX1_rankOf) (pc := 86) (r := 14) (k := r) dX1_rankOf_86 hc (by decide) rfl (by decide) rfl (by omega) (by decide) (fun r86 => ?_)
        refine go_ineg (y := mX1_rankOf) (pc := 87) dX1_rankOf_87 ?_
        refine go_icmp_ne (y := mX1_rankOf) (pc := 88) (tgt := 95) dX1_rankOf_88 (by decide) (by omega) (by omega) (fun h88 => ?_) (fun h88 => ?_)
        · skip
          refine go_iconst (y := mX1_rankOf) (pc := 95) dX1_rankOf_95 ?_
          refine go_ireturn (y := mX1_rankOf) (pc := 96) dX1_rankOf_96 rfl ?_
          exact K _ (by unfold rnk; rw [if_neg (by decide), if_neg (by decide), if_pos rfl, eq, if_neg h88]) ⟨by omega, by omega⟩
        · skip
          refine go_iconst (y := mX1_rankOf) (pc := 91) dX1_rankOf_91 ?_
          refine go_goto (y := mX1_rankOf) (pc := 92) (tgt := 96) dX1_rankOf_92 (by decide) ?_
          refine go_ireturn (y := mX1_rankOf) (pc := 96) dX1_rankOf_96 rfl ?_
          exact K _ (by unfold rnk; rw [if_neg (by decide), if_neg (by decide), if_pos rfl, eq, if_pos h88]) ⟨by omega, by omega⟩
      · skip
        refine go_tbOut (y := mX1_rankOf) (pc := 11) (tgt := 97) dX1_rankOf_11 (by omega) (by omega) (by decide) ?_
        refine go_iconst (y := mX1_rankOf) (pc := 97) dX1_rankOf_97 ?_
        refine go_ireturn (y := mX1_rankOf) (pc := 98) dX1_rankOf_98 rfl ?_
        exact K _ (by unfold rnk; rw [if_neg h1, if_neg h2, if_neg h3]) ⟨by omega, by omega⟩
theorem fsk_b (S s : Mem) (rk : Int) : ∀ k : Nat, -1 ≤ (fsk S s rk k).1 ∧ (fsk S s rk k).1 < k
  | 0 => by simp [fsk]
  | k + 1 => by
    have h := fsk_b S s rk k
    rw [fsk]
    split
    · show -1 ≤ (k : Int) ∧ (k : Int) < _
      omega
    · omega
theorem fsl_b {S s : Mem} {rk : Int} (h : 0 ≤ s 11 0) : -1 ≤ fsl S s rk ∧ fsl S s rk < s 11 0 ∨ fsl S s rk = -1 := by
  have := fsk_b S s rk (s 11 0).toNat
  unfold fsl
  omega
set_option maxRecDepth 8000 in
set_option maxHeartbeats 4000000 in
theorem c_firstPlace {c : Nat} (hc : is_ch c) {σ μ : Mem} {rk : Int} (hrk : rng rk) (hS : wfS (su μ)) (hC : wfC (su μ) σ) {Q : Option Value → Mem → Prop} {X : String → Mem → Prop} (K : ∀ v, v = fsl (su μ) σ rk → -1 ≤ v ∧ v < 12 ∧ (v = -1 ∨ v < σ 11 0) → Q (some (.int (iI v))) (put c σ μ)) : mt 276 1 0 0 mX1_firstPlace [.ref c, .int (iI rk)] Q X (put c σ μ) := by
  show go 276 1 0 0 mX1_firstPlace Q X 0 [.ref c, .int (iI rk), .null, .null, .null, .null] [] _
  have hr0 := hC.1.2.2.1
  have hr12 : σ 11 0 ≤ 12 := by have := hC.1.2.2.2.1; have := hS.2.2.2.2.2.2.2.2.2.2.2.2.2.2.2.1; omega
  have loop : ∀ (n k : Nat) (u : Value), (k : Int) + n = σ 11 0 → rng (fsk (su μ) σ rk k).2 → go 276 1 0 0 mX1_firstPlace Q X 7 [.ref c, .int (iI rk), .int (iI ((fsk (su μ) σ rk k).1)), .int (iI ((fsk (su μ) σ rk k).2)), .int (iI (k : Nat)), u] [] (put c σ μ) := by
    intro n
    induction n using Nat.strongRecOn with
    | _ n ih =>
      intro k u hk hb
      have ih' := ih (n - 1)
      have hf := fsk_b (su μ) σ rk k
      refine go_iload (y := mX1_firstPlace) (pc := 7) dX1_firstPlace_7 rfl ?_
      refine go_aload_n (y := mX1_firstPlace) (pc := 9) dX1_firstPlace_9 rfl rfl ?_
      refine go_getR (y := mX1_firstPlace) (pc := 10) dX1_firstPlace_10 fl_X1_28 (ch_sh hc 0 (by decide)) rfl (ch_z (r := 0) hc (by decide)) ?_
      refine go_cget (y := mX1_firstPlace) (pc := 13) (r := 11) dX1_firstPlace_13 fl_X1_51 hc (by decide) rfl rfl (by decide) (fun r13 => ?_)
      refine go_icmp_ge (y := mX1_firstPlace) (pc := 16) (tgt := 51) dX1_firstPlace_16 (by decide) (by omega) (by omega) (fun h16 => ?_) (fun h16 => ?_)
      · skip
        refine go_iload_n (y := mX1_firstPlace) (pc := 51) dX1_firstPlace_51 rfl rfl ?_
        refine go_ireturn (y := mX1_firstPlace) (pc := 52) dX1_firstPlace_52 rfl ?_
        have e : k = (σ 11 0).toNat := by omega
        subst e
        exact K _ rfl (by omega)
      · skip
        have J39 : ∀ v : Int, v = rnk (su μ) σ k rk → rng v → ((fsk (su μ) σ rk k).1 = -1 ∨ v < (fsk (su μ) σ rk k).2) → go 276 1 0 0 mX1_firstPlace Q X 39 [.ref c, .int (iI rk), .int (iI ((fsk (su μ) σ rk k).1)), .int (iI ((fsk (su μ) σ rk k).2)), .int (iI (k : Nat)), .int (iI v)] [] (put c σ μ) := by
          intro v hv bv hor
          refine go_iload (y := mX1_firstPlace) (pc := 39) dX1_firstPlace_39 rfl ?_
          refine go_istore_n (y := mX1_firstPlace) (pc := 41) dX1_firstPlace_41 rfl (by decide) ?_
          refine go_iload (y := mX1_firstPlace) (pc := 42) dX1_firstPlace_42 rfl ?_
          refine go_istore_n (y := mX1_firstPlace) (pc := 44) dX1_firstPlace_44 rfl (by decide) ?_
          refine go_iinc (y := mX1_firstPlace) (pc := 45) dX1_firstPlace_45 rfl (by decide) ?_
          refine go_goto (y := mX1_firstPlace) (pc := 48) (tgt := 7) dX1_firstPlace_48 (by decide) ?_
          have h := ih' (by omega) (k + 1) (.int (iI v)) (by omega)
          rw [fsk, if_pos (hv ▸ hor), ← hv] at h
          exact h bv
        refine go_aload_n (y := mX1_firstPlace) (pc := 19) dX1_firstPlace_19 rfl rfl ?_
        refine go_iload (y := mX1_firstPlace) (pc := 20) dX1_firstPlace_20 rfl ?_
        refine go_iload_n (y := mX1_firstPlace) (pc := 22) dX1_firstPlace_22 rfl rfl ?_
        refine go_callV2 (y := mX1_firstPlace) (pc := 23) (y' := mX1_rankOf) (kc2 := 0) (ks2 := 0) dX1_firstPlace_23 ml_X1_169 ok_X1_rankOf (ch_sh hc 0 (by decide)) ⟨_, _, rfl⟩ (ch_z (r := 0) hc (by decide)) ⟨rfl, rfl⟩ (by decide) (Nat.le_of_ble_eq_true rfl) rfl (c_rankOf hc (r := k) (by omega) hS hC (by omega) (fun v23 e23 b23 => ?_))
        refine go_istore (y := mX1_firstPlace) (pc := 26) dX1_firstPlace_26 (by decide) ?_
        refine go_iload_n (y := mX1_firstPlace) (pc := 28) dX1_firstPlace_28 rfl rfl ?_
        refine go_iconst (y := mX1_firstPlace) (pc := 29) dX1_firstPlace_29 ?_
        refine go_icmp_eq (y := mX1_firstPlace) (pc := 30) (tgt := 39) dX1_firstPlace_30 (by decide) (by omega) (by omega) (fun h30 => ?_) (fun h30 => ?_)
        · skip
          exact J39 _ e23 b23 (Or.inl h30)
        · skip
          refine go_iload (y := mX1_firstPlace) (pc := 33) dX1_firstPlace_33 rfl ?_
          refine go_iload_n (y := mX1_firstPlace) (pc := 35) dX1_firstPlace_35 rfl rfl ?_
          refine go_icmp_ge (y := mX1_firstPlace) (pc := 36) (tgt := 45) dX1_firstPlace_36 (by decide) (by omega) (by omega) (fun h36 => ?_) (fun h36 => ?_)
          · skip
            refine go_iinc (y := mX1_firstPlace) (pc := 45) dX1_firstPlace_45 rfl (by decide) ?_
            refine go_goto (y := mX1_firstPlace) (pc := 48) (tgt := 7) dX1_firstPlace_48 (by decide) ?_
            have h := ih' (by omega) (k + 1) (.int (iI v23)) (by omega)
            rw [fsk, if_neg (fun w => by rw [← e23] at w; omega)] at h
            exact h hb
          · skip
            exact J39 _ e23 b23 (Or.inr h36)
  refine go_iconst (y := mX1_firstPlace) (pc := 0) dX1_firstPlace_0 ?_
  refine go_istore_n (y := mX1_firstPlace) (pc := 1) dX1_firstPlace_1 rfl (by decide) ?_
  refine go_iconst (y := mX1_firstPlace) (pc := 2) dX1_firstPlace_2 ?_
  refine go_istore_n (y := mX1_firstPlace) (pc := 3) dX1_firstPlace_3 rfl (by decide) ?_
  refine go_iconst (y := mX1_firstPlace) (pc := 4) dX1_firstPlace_4 ?_
  refine go_istore (y := mX1_firstPlace) (pc := 5) dX1_firstPlace_5 (by decide) ?_
  exact loop (σ 11 0).toNat 0 _ (by omega) rng0
set_option maxRecDepth 8000 in
set_option maxHeartbeats 4000000 in
theorem c_startSpeech {c : Nat} (hc : is_ch c) {σ μ : Mem} {h p : Nat} (hh : h < 4) (hS : wfS (su μ)) (hC : wfC (su μ) σ) (hp : (p : Int) < σ 11 0) {Q : Option Value → Mem → Prop} {X : String → Mem → Prop} (K : Q none (put c (spk (su μ) σ h p) μ)) : mt 276 2 0 0 mX1_startSpeech [.ref c, .int (iI (h : Nat)), .int (iI (p : Nat))] Q X (put c σ μ) := by
  show go 276 2 0 0 mX1_startSpeech Q X 0 [.ref c, .int (iI (h : Nat)), .int (iI (p : Nat)), .null, .null, .null] [] _
  have hd := hC.2.2.2.1 p hp
  have n2 : su μ 0 7 ≤ 12 := hS.2.2.2.2.2.2.2.2.2.2.2.2.2.2.2.1
  have hr12 : σ 11 0 ≤ 12 := by have := hC.1.2.2.2.1; omega
  have hq16 := hC.1.2.1
  obtain ⟨m, hm⟩ := Int.eq_ofNat_of_zero_le hd.1
  obtain ⟨q, hq⟩ := Int.eq_ofNat_of_zero_le hd.2.2.1
  have em : (σ 12 p).toNat = m := by omega
  have eq : (σ 13 p).toNat = q := by omega
  unfold spk at K
  rw [em, eq] at K
  refine go_aload_n (y := mX1_startSpeech) (pc := 0) dX1_startSpeech_0 rfl rfl ?_
  refine go_getR (y := mX1_startSpeech) (pc := 1) dX1_startSpeech_1 fl_X1_28 (ch_sh hc 0 (by decide)) rfl (ch_z (r := 0) hc (by decide)) ?_
  refine go_getR (y := mX1_startSpeech) (pc := 4) dX1_startSpeech_4 fl_X1_172 (ch_sh hc 11 (by decide)) rfl (ch_z (r := 11) hc (by decide)) ?_
  refine go_iload_n (y := mX1_startSpeech) (pc := 7) dX1_startSpeech_7 rfl rfl ?_
  refine go_cial (y := mX1_startSpeech) (pc := 8) (r := 12) (k := p) dX1_startSpeech_8 hc (by decide) rfl (by decide) rfl (by omega) (by decide) (fun r8 => ?_)
  refine go_top (b := ((m : Nat) : Int)) (hm) (fun t8 => ?_)
  refine go_istore_n (y := mX1_startSpeech) (pc := 9) dX1_startSpeech_9 rfl (by decide) ?_
  refine go_aload_n (y := mX1_startSpeech) (pc := 10) dX1_startSpeech_10 rfl rfl ?_
  refine go_getR (y := mX1_startSpeech) (pc := 11) dX1_startSpeech_11 fl_X1_28 (ch_sh hc 0 (by decide)) rfl (ch_z (r := 0) hc (by decide)) ?_
  refine go_getR (y := mX1_startSpeech) (pc := 14) dX1_startSpeech_14 fl_X1_181 (ch_sh hc 11 (by decide)) rfl (ch_z (r := 11) hc (by decide)) ?_
  refine go_iload_n (y := mX1_startSpeech) (pc := 17) dX1_startSpeech_17 rfl rfl ?_
  refine go_cial (y := mX1_startSpeech) (pc := 18) (r := 13) (k := p) dX1_startSpeech_18 hc (by decide) rfl (by decide) rfl (by omega) (by decide) (fun r18 => ?_)
  refine go_top (b := ((q : Nat) : Int)) (hq) (fun t18 => ?_)
  refine go_istore (y := mX1_startSpeech) (pc := 19) dX1_startSpeech_19 (by decide) ?_
  refine go_aload_n (y := mX1_startSpeech) (pc := 21) dX1_startSpeech_21 rfl rfl ?_
  refine go_getR (y := mX1_startSpeech) (pc := 22) dX1_startSpeech_22 fl_X1_28 (ch_sh hc 0 (by decide)) rfl (ch_z (r := 0) hc (by decide)) ?_
  refine go_getR (y := mX1_startSpeech) (pc := 25) dX1_startSpeech_25 fl_X1_182 (ch_sh hc 11 (by decide)) rfl (ch_z (r := 11) hc (by decide)) ?_
  refine go_iload_n (y := mX1_startSpeech) (pc := 28) dX1_startSpeech_28 rfl rfl ?_
  refine go_cial (y := mX1_startSpeech) (pc := 29) (r := 14) (k := p) dX1_startSpeech_29 hc (by decide) rfl (by decide) rfl (by omega) (by decide) (fun r29 => ?_)
  refine go_istore (y := mX1_startSpeech) (pc := 30) dX1_startSpeech_30 (by decide) ?_
  refine go_aload_n (y := mX1_startSpeech) (pc := 32) dX1_startSpeech_32 rfl rfl ?_
  refine go_getR (y := mX1_startSpeech) (pc := 33) dX1_startSpeech_33 fl_X1_28 (ch_sh hc 0 (by decide)) rfl (ch_z (r := 0) hc (by decide)) ?_
  refine go_iload_n (y := mX1_startSpeech) (pc := 36) dX1_startSpeech_36 rfl rfl ?_
  refine go_callV1 (y := mX1_startSpeech) (pc := 37) (y' := mX5_removeAt) (kc2 := 0) (ks2 := 0) dX1_startSpeech_37 ml_X1_183 ok_X5_removeAt (ch_sh hc 11 (by decide)) ⟨_, _, rfl⟩ (ch_z (r := 11) hc (by decide)) rfl (by decide) (Nat.le_of_ble_eq_true rfl) rfl (c_removeAt hc (p := p) (by omega) (by omega) ?_)
  refine go_aload_n (y := mX1_startSpeech) (pc := 40) dX1_startSpeech_40 rfl rfl ?_
  refine go_getR (y := mX1_startSpeech) (pc := 41) dX1_startSpeech_41 fl_X1_35 (ch_sh hc 0 (by decide)) rfl (ch_z (r := 0) hc (by decide)) ?_
  refine go_getR (y := mX1_startSpeech) (pc := 44) dX1_startSpeech_44 fl_X1_187 (ch_sh hc 15 (by decide)) rfl (ch_z (r := 15) hc (by decide)) ?_
  refine go_iload_n (y := mX1_startSpeech) (pc := 47) dX1_startSpeech_47 rfl rfl ?_
  refine go_iload_n (y := mX1_startSpeech) (pc := 48) dX1_startSpeech_48 rfl rfl ?_
  refine go_cias (y := mX1_startSpeech) (pc := 49) (r := 16) (k := h) dX1_startSpeech_49 hc (by decide) rfl (by decide) rfl (by omega) (by decide) (by omega) ?_
  refine go_aload_n (y := mX1_startSpeech) (pc := 50) dX1_startSpeech_50 rfl rfl ?_
  refine go_getR (y := mX1_startSpeech) (pc := 51) dX1_startSpeech_51 fl_X1_35 (ch_sh hc 0 (by decide)) rfl (ch_z (r := 0) hc (by decide)) ?_
  refine go_getR (y := mX1_startSpeech) (pc := 54) dX1_startSpeech_54 fl_X1_157 (ch_sh hc 15 (by decide)) rfl (ch_z (r := 15) hc (by decide)) ?_
  refine go_iload_n (y := mX1_startSpeech) (pc := 57) dX1_startSpeech_57 rfl rfl ?_
  refine go_iload (y := mX1_startSpeech) (pc := 58) dX1_startSpeech_58 rfl ?_
  refine go_cias (y := mX1_startSpeech) (pc := 60) (r := 17) (k := h) dX1_startSpeech_60 hc (by decide) rfl (by decide) rfl (by omega) (by decide) (by omega) ?_
  refine go_aload_n (y := mX1_startSpeech) (pc := 61) dX1_startSpeech_61 rfl rfl ?_
  refine go_getR (y := mX1_startSpeech) (pc := 62) dX1_startSpeech_62 fl_X1_35 (ch_sh hc 0 (by decide)) rfl (ch_z (r := 0) hc (by decide)) ?_
  refine go_getR (y := mX1_startSpeech) (pc := 65) dX1_startSpeech_65 fl_X1_164 (ch_sh hc 15 (by decide)) rfl (ch_z (r := 15) hc (by decide)) ?_
  refine go_iload_n (y := mX1_startSpeech) (pc := 68) dX1_startSpeech_68 rfl rfl ?_
  refine go_iload (y := mX1_startSpeech) (pc := 69) dX1_startSpeech_69 rfl ?_
  refine go_cias (y := mX1_startSpeech) (pc := 71) (r := 18) (k := h) dX1_startSpeech_71 hc (by decide) rfl (by decide) rfl (by omega) (by decide) (by omega) ?_
  refine go_aload_n (y := mX1_startSpeech) (pc := 72) dX1_startSpeech_72 rfl rfl ?_
  refine go_getR (y := mX1_startSpeech) (pc := 73) dX1_startSpeech_73 fl_X1_35 (ch_sh hc 0 (by decide)) rfl (ch_z (r := 0) hc (by decide)) ?_
  refine go_getR (y := mX1_startSpeech) (pc := 76) dX1_startSpeech_76 fl_X1_190 (ch_sh hc 15 (by decide)) rfl (ch_z (r := 15) hc (by decide)) ?_
  refine go_iload_n (y := mX1_startSpeech) (pc := 79) dX1_startSpeech_79 rfl rfl ?_
  refine go_aload_n (y := mX1_startSpeech) (pc := 80) dX1_startSpeech_80 rfl rfl ?_
  refine go_getR (y := mX1_startSpeech) (pc := 81) dX1_startSpeech_81 fl_X1_39 (ch_sh hc 0 (by decide)) rfl (ch_z (r := 0) hc (by decide)) ?_
  refine go_sget (y := mX1_startSpeech) (pc := 84) (r := 0) dX1_startSpeech_84 fl_X1_193 hc (by decide) rfl rfl (by decide) (fun r84 => ?_)
  refine go_cias (y := mX1_startSpeech) (pc := 87) (r := 19) (k := h) dX1_startSpeech_87 hc (by decide) rfl (by decide) rfl (by omega) (by decide) (by omega) ?_
  refine go_aload_n (y := mX1_startSpeech) (pc := 88) dX1_startSpeech_88 rfl rfl ?_
  refine go_getR (y := mX1_startSpeech) (pc := 89) dX1_startSpeech_89 fl_X1_21 (ch_sh hc 0 (by decide)) rfl (ch_z (r := 0) hc (by decide)) ?_
  refine go_getR (y := mX1_startSpeech) (pc := 92) dX1_startSpeech_92 fl_X1_101 (ch_sh hc 5 (by decide)) rfl (ch_z (r := 5) hc (by decide)) ?_
  refine go_iload (y := mX1_startSpeech) (pc := 95) dX1_startSpeech_95 rfl ?_
  refine go_iload (y := mX1_startSpeech) (pc := 97) dX1_startSpeech_97 rfl ?_
  refine go_cias (y := mX1_startSpeech) (pc := 99) (r := 9) (k := q) dX1_startSpeech_99 hc (by decide) rfl (by decide) rfl (by omega) (by decide) (by omega) ?_
  refine go_aload_n (y := mX1_startSpeech) (pc := 100) dX1_startSpeech_100 rfl rfl ?_
  refine go_getR (y := mX1_startSpeech) (pc := 101) dX1_startSpeech_101 fl_X1_12 (ch_sh hc 0 (by decide)) rfl (ch_z (r := 0) hc (by decide)) ?_
  refine go_getR (y := mX1_startSpeech) (pc := 104) dX1_startSpeech_104 fl_X1_178 (ch_sh hc 1 (by decide)) rfl (ch_z (r := 1) hc (by decide)) ?_
  refine go_iload_n (y := mX1_startSpeech) (pc := 107) dX1_startSpeech_107 rfl rfl ?_
  refine go_dup2 (y := mX1_startSpeech) (pc := 108) dX1_startSpeech_108 rfl rfl ?_
  refine go_cial (y := mX1_startSpeech) (pc := 109) (r := 4) (k := m) dX1_startSpeech_109 hc (by decide) rfl (by decide) rfl (by omega) (by decide) (fun r109 => ?_)
  refine go_iconst (y := mX1_startSpeech) (pc := 110) dX1_startSpeech_110 ?_
  refine go_iadd (y := mX1_startSpeech) (pc := 111) dX1_startSpeech_111 ?_
  refine go_ciasW (y := mX1_startSpeech) (pc := 112) (r := 4) (k := m) dX1_startSpeech_112 hc (by decide) rfl (by decide) rfl (by omega) (by decide)  ?_
  refine go_return (y := mX1_startSpeech) (pc := 113) dX1_startSpeech_113 rfl ?_
  exact K
set_option maxRecDepth 8000 in
set_option maxHeartbeats 4000000 in
theorem c_endSpeech {c : Nat} (hc : is_ch c) {σ μ : Mem} {h sp q : Nat} (hh : h < 4) (hS : wfS (su μ)) (hsp : σ 16 h = sp) (hsp2 : (sp : Int) < su μ 0 7) (hq : σ 17 h = q) (hq2 : q < 16) (hd : σ 18 h = 1 ∨ σ 18 h = -1) (h8 : 0 ≤ σ 8 q ∧ σ 8 q ≤ 9) (hl : ∀ m : Nat, (m : Int) < su μ 0 7 → -20 ≤ ln σ m q ∧ ln σ m q ≤ 20) {Q : Option Value → Mem → Prop} {X : String → Mem → Prop} (K : Q none (put c (esp (su μ) σ h) μ)) : mt 276 2 0 0 mX1_endSpeech [.ref c, .int (iI (h : Nat))] Q X (put c σ μ) := by
  show go 276 2 0 0 mX1_endSpeech Q X 0 [.ref c, .int (iI (h : Nat)), .null, .null, .null, .null] [] _
  have n2 : su μ 0 7 ≤ 12 := hS.2.2.2.2.2.2.2.2.2.2.2.2.2.2.2.1
  have n1 : 1 ≤ su μ 0 7 := hS.2.2.2.2.2.2.2.2.2.2.2.2.2.2.1
  have hmem := hS.2.2.2.2.2.2.2.2.2.2.2.2.2.2.2.2
  have es : (σ 16 h).toNat = sp := by omega
  have eq : (σ 17 h).toNat = q := by omega
  unfold esp at K
  rw [es, eq] at K
  have J46 : ∀ b : Int, (b = if 0 < σ 20 h then 1 else 2) → (b = 1 ∨ b = 2) → go 276 2 0 0 mX1_endSpeech Q X 45 [.ref c, .int (iI (h : Nat)), .int (iI (sp : Nat)), .int (iI (q : Nat)), .null, .null] [.int (iI b), .int (iI (σ 18 h))] (put c σ μ) := by
    intro b hb gb
    rw [← hb] at K
    have hch : -2 ≤ σ 18 h * b ∧ σ 18 h * b ≤ 2 := by rcases hd with e | e <;> rw [e] <;> omega
    have loop : ∀ (n k : Nat), (k : Int) + n = su μ 0 7 → go 276 2 0 0 mX1_endSpeech Q X 51 [.ref c, .int (iI (h : Nat)), .int (iI (sp : Nat)), .int (iI (q : Nat)), .int (iI (σ 18 h * b)), .int (iI (k : Nat))] [] (put c (esk (su μ) σ sp q (σ 18 h * b) k) μ) := by
      intro n
      induction n using Nat.strongRecOn with
      | _ n ih =>
        intro k hk
        have ih' := ih (n - 1)
        have o8 : ∀ k, esk (su μ) σ sp q (σ 18 h * b) k 8 q = σ 8 q := fun k => esk_o (by decide) k
        refine go_iload (y := mX1_endSpeech) (pc := 51) dX1_endSpeech_51 rfl ?_
        refine go_aload_n (y := mX1_endSpeech) (pc := 53) dX1_endSpeech_53 rfl rfl ?_
        refine go_getR (y := mX1_endSpeech) (pc := 54) dX1_endSpeech_54 fl_X1_39 (ch_sh hc 0 (by decide)) rfl (ch_z (r := 0) hc (by decide)) ?_
        refine go_sget (y := mX1_endSpeech) (pc := 57) (r := 0) dX1_endSpeech_57 fl_X1_104 hc (by decide) rfl rfl (by decide) (fun r57 => ?_)
        refine go_icmp_ge (y := mX1_endSpeech) (pc := 60) (tgt := 111) dX1_endSpeech_60 (by decide) (by omega) (by omega) (fun h60 => ?_) (fun h60 => ?_)
        · skip
          refine go_aload_n (y := mX1_endSpeech) (pc := 111) dX1_endSpeech_111 rfl rfl ?_
          refine go_getR (y := mX1_endSpeech) (pc := 112) dX1_endSpeech_112 fl_X1_21 (ch_sh hc 0 (by decide)) rfl (ch_z (r := 0) hc (by decide)) ?_
          refine go_getR (y := mX1_endSpeech) (pc := 115) dX1_endSpeech_115 fl_X1_98 (ch_sh hc 5 (by decide)) rfl (ch_z (r := 5) hc (by decide)) ?_
          refine go_iload_n (y := mX1_endSpeech) (pc := 118) dX1_endSpeech_118 rfl rfl ?_
          refine go_aload_n (y := mX1_endSpeech) (pc := 119) dX1_endSpeech_119 rfl rfl ?_
          refine go_getR (y := mX1_endSpeech) (pc := 120) dX1_endSpeech_120 fl_X1_21 (ch_sh hc 0 (by decide)) rfl (ch_z (r := 0) hc (by decide)) ?_
          refine go_getR (y := mX1_endSpeech) (pc := 123) dX1_endSpeech_123 fl_X1_98 (ch_sh hc 5 (by decide)) rfl (ch_z (r := 5) hc (by decide)) ?_
          refine go_iload_n (y := mX1_endSpeech) (pc := 126) dX1_endSpeech_126 rfl rfl ?_
          refine go_cial (y := mX1_endSpeech) (pc := 127) (r := 8) (k := q) dX1_endSpeech_127 hc (by decide) rfl (by decide) rfl (by omega) (by decide) (fun r127 => ?_)
          have w8 := o8 k
          refine go_iconst (y := mX1_endSpeech) (pc := 128) dX1_endSpeech_128 ?_
          refine go_iadd (y := mX1_endSpeech) (pc := 129) dX1_endSpeech_129 ?_
          refine go_bipush (y := mX1_endSpeech) (pc := 130) dX1_endSpeech_130 (by decide) ?_
          refine go_mmin (y := mX1_endSpeech) (pc := 132) dX1_endSpeech_132 ml_X1_200 (by decide) (Nat.le_of_ble_eq_true rfl) (by omega) (by omega) ?_
          refine go_cias (y := mX1_endSpeech) (pc := 135) (r := 8) (k := q) dX1_endSpeech_135 hc (by decide) rfl (by decide) rfl (by omega) (by decide) (by omega) ?_
          refine go_aload_n (y := mX1_endSpeech) (pc := 136) dX1_endSpeech_136 rfl rfl ?_
          refine go_getR (y := mX1_endSpeech) (pc := 137) dX1_endSpeech_137 fl_X1_35 (ch_sh hc 0 (by decide)) rfl (ch_z (r := 0) hc (by decide)) ?_
          refine go_iload_n (y := mX1_endSpeech) (pc := 140) dX1_endSpeech_140 rfl rfl ?_
          refine go_callV1 (y := mX1_endSpeech) (pc := 141) (y' := mX0_leave) (kc2 := 0) (ks2 := 0) dX1_endSpeech_141 ml_X1_203 ok_X0_leave (ch_sh hc 15 (by decide)) ⟨_, _, rfl⟩ (ch_z (r := 15) hc (by decide)) rfl (by decide) (Nat.le_of_ble_eq_true rfl) rfl (c_leave hc (h := h) (by omega) ?_)
          refine go_return (y := mX1_endSpeech) (pc := 144) dX1_endSpeech_144 rfl ?_
          have e : k = (su μ 0 7).toNat := by omega
          subst e
          exact K
        · skip
          refine go_iload (y := mX1_endSpeech) (pc := 63) dX1_endSpeech_63 rfl ?_
          refine go_iload_n (y := mX1_endSpeech) (pc := 65) dX1_endSpeech_65 rfl rfl ?_
          refine go_icmp_eq (y := mX1_endSpeech) (pc := 66) (tgt := 105) dX1_endSpeech_66 (by decide) (by omega) (by omega) (fun h66 => ?_) (fun h66 => ?_)
          · skip
            refine go_iinc (y := mX1_endSpeech) (pc := 105) dX1_endSpeech_105 rfl (by decide) ?_
            refine go_goto (y := mX1_endSpeech) (pc := 108) (tgt := 51) dX1_endSpeech_108 (by decide) ?_
            have h9 := ih' (by omega) (k + 1) (by omega)
            rw [esk, if_neg (fun w => w.1 (by omega))] at h9
            exact h9
          · skip
            refine go_aload_n (y := mX1_endSpeech) (pc := 69) dX1_endSpeech_69 rfl rfl ?_
            refine go_getR (y := mX1_endSpeech) (pc := 70) dX1_endSpeech_70 fl_X1_39 (ch_sh hc 0 (by decide)) rfl (ch_z (r := 0) hc (by decide)) ?_
            refine go_iload (y := mX1_endSpeech) (pc := 73) dX1_endSpeech_73 rfl ?_
            have w1 := hmem k (by omega)
            refine go_iload_n (y := mX1_endSpeech) (pc := 75) dX1_endSpeech_75 rfl rfl ?_
            have w2 := hmem sp (by omega)
            refine go_callV2 (y := mX1_endSpeech) (pc := 76) (y' := mX7_isInReach) (kc2 := 0) (ks2 := 0) dX1_endSpeech_76 ml_X1_196 ok_X7_isInReach (show shp 10 = _ from rfl) ⟨_, _, rfl⟩ (by decide) ⟨rfl, rfl⟩ (by decide) (Nat.le_of_ble_eq_true rfl) rfl (s_isInReach hc (m := k) (k := sp) (by omega) (by omega) (by omega) (by omega) (fun v76 e76 b76 => ?_))
            refine go_if_eq (y := mX1_endSpeech) (pc := 79) (tgt := 105) dX1_endSpeech_79 (by decide) (by omega) (fun h79 => ?_) (fun h79 => ?_)
            · skip
              refine go_iinc (y := mX1_endSpeech) (pc := 105) dX1_endSpeech_105 rfl (by decide) ?_
              refine go_goto (y := mX1_endSpeech) (pc := 108) (tgt := 51) dX1_endSpeech_108 (by decide) ?_
              have h9 := ih' (by omega) (k + 1) (by omega)
              have g := bI_0 e76 h79
              rw [esk, if_neg (fun w => g w.2)] at h9
              exact h9
            · skip
              have g := bI_1 e76 h79
              have hll := hl k (by omega)
              have hle : ln (esk (su μ) σ sp q (σ 18 h * b) k) k q = ln σ k q := by rw [ln_esk (by omega) k (by omega), if_neg (by omega)]
              refine go_aload_n (y := mX1_endSpeech) (pc := 82) dX1_endSpeech_82 rfl rfl ?_
              refine go_getR (y := mX1_endSpeech) (pc := 83) dX1_endSpeech_83 fl_X1_21 (ch_sh hc 0 (by decide)) rfl (ch_z (r := 0) hc (by decide)) ?_
              refine go_iload (y := mX1_endSpeech) (pc := 86) dX1_endSpeech_86 rfl ?_
              refine go_iload_n (y := mX1_endSpeech) (pc := 88) dX1_endSpeech_88 rfl rfl ?_
              refine go_aload_n (y := mX1_endSpeech) (pc := 89) dX1_endSpeech_89 rfl rfl ?_
              refine go_getR (y := mX1_endSpeech) (pc := 90) dX1_endSpeech_90 fl_X1_21 (ch_sh hc 0 (by decide)) rfl (ch_z (r := 0) hc (by decide)) ?_
              refine go_iload (y := mX1_endSpeech) (pc := 93) dX1_endSpeech_93 rfl ?_
              refine go_iload_n (y := mX1_endSpeech) (pc := 95) dX1_endSpeech_95 rfl rfl ?_
              refine go_callV2 (y := mX1_endSpeech) (pc := 96) (y' := mX4_leaningOf) (kc2 := 0) (ks2 := 0) dX1_endSpeech_96 ml_X1_160 ok_X4_leaningOf (ch_sh hc 5 (by decide)) ⟨_, _, rfl⟩ (ch_z (r := 5) hc (by decide)) ⟨rfl, rfl⟩ (by decide) (Nat.le_of_ble_eq_true rfl) rfl (c_leaningOf hc (m := k) (q := q) (by omega) (by omega) (fun r96 => ?_))
              refine go_iload (y := mX1_endSpeech) (pc := 99) dX1_endSpeech_99 rfl ?_
              refine go_iadd (y := mX1_endSpeech) (pc := 101) dX1_endSpeech_101 ?_
              refine go_callV3 (y := mX1_endSpeech) (pc := 102) (y' := mX4_setLeaning) (kc2 := 0) (ks2 := 0) dX1_endSpeech_102 ml_X1_116 ok_X4_setLeaning (ch_sh hc 5 (by decide)) ⟨_, _, rfl⟩ (ch_z (r := 5) hc (by decide)) ⟨rfl, rfl, rfl⟩ (by decide) (Nat.le_of_ble_eq_true rfl) rfl (c_setLeaning hc (m := k) (q := q) (by omega) (by omega) (by omega) ?_)
              refine go_iinc (y := mX1_endSpeech) (pc := 105) dX1_endSpeech_105 rfl (by decide) ?_
              refine go_goto (y := mX1_endSpeech) (pc := 108) (tgt := 51) dX1_endSpeech_108 (by decide) ?_
              have h9 := ih' (by omega) (k + 1) (by omega)
              rw [esk, if_pos ⟨by omega, g⟩] at h9
              exact h9
    refine go_imul (y := mX1_endSpeech) (pc := 45) dX1_endSpeech_45 ?_
    refine go_istore (y := mX1_endSpeech) (pc := 46) dX1_endSpeech_46 (by decide) ?_
    refine go_iconst (y := mX1_endSpeech) (pc := 48) dX1_endSpeech_48 ?_
    refine go_istore (y := mX1_endSpeech) (pc := 49) dX1_endSpeech_49 (by decide) ?_
    exact loop (su μ 0 7).toNat 0 (by omega)
  refine go_aload_n (y := mX1_endSpeech) (pc := 0) dX1_endSpeech_0 rfl rfl ?_
  refine go_getR (y := mX1_endSpeech) (pc := 1) dX1_endSpeech_1 fl_X1_35 (ch_sh hc 0 (by decide)) rfl (ch_z (r := 0) hc (by decide)) ?_
  refine go_getR (y := mX1_endSpeech) (pc := 4) dX1_endSpeech_4 fl_X1_187 (ch_sh hc 15 (by decide)) rfl (ch_z (r := 15) hc (by decide)) ?_
  refine go_iload_n (y := mX1_endSpeech) (pc := 7) dX1_endSpeech_7 rfl rfl ?_
  refine go_cial (y := mX1_endSpeech) (pc := 8) (r := 16) (k := h) dX1_endSpeech_8 hc (by decide) rfl (by decide) rfl (by omega) (by decide) (fun r8 => ?_)
  refine go_top (b := ((sp : Nat) : Int)) (hsp) (fun t8 => ?_)
  refine go_istore_n (y := mX1_endSpeech) (pc := 9) dX1_endSpeech_9 rfl (by decide) ?_
  refine go_aload_n (y := mX1_endSpeech) (pc := 10) dX1_endSpeech_10 rfl rfl ?_
  refine go_getR (y := mX1_endSpeech) (pc := 11) dX1_endSpeech_11 fl_X1_35 (ch_sh hc 0 (by decide)) rfl (ch_z (r := 0) hc (by decide)) ?_
  refine go_getR (y := mX1_endSpeech) (pc := 14) dX1_endSpeech_14 fl_X1_157 (ch_sh hc 15 (by decide)) rfl (ch_z (r := 15) hc (by decide)) ?_
  refine go_iload_n (y := mX1_endSpeech) (pc := 17) dX1_endSpeech_17 rfl rfl ?_
  refine go_cial (y := mX1_endSpeech) (pc := 18) (r := 17) (k := h) dX1_endSpeech_18 hc (by decide) rfl (by decide) rfl (by omega) (by decide) (fun r18 => ?_)
  refine go_top (b := ((q : Nat) : Int)) (hq) (fun t18 => ?_)
  refine go_istore_n (y := mX1_endSpeech) (pc := 19) dX1_endSpeech_19 rfl (by decide) ?_
  refine go_aload_n (y := mX1_endSpeech) (pc := 20) dX1_endSpeech_20 rfl rfl ?_
  refine go_getR (y := mX1_endSpeech) (pc := 21) dX1_endSpeech_21 fl_X1_35 (ch_sh hc 0 (by decide)) rfl (ch_z (r := 0) hc (by decide)) ?_
  refine go_getR (y := mX1_endSpeech) (pc := 24) dX1_endSpeech_24 fl_X1_164 (ch_sh hc 15 (by decide)) rfl (ch_z (r := 15) hc (by decide)) ?_
  refine go_iload_n (y := mX1_endSpeech) (pc := 27) dX1_endSpeech_27 rfl rfl ?_
  refine go_cial (y := mX1_endSpeech) (pc := 28) (r := 18) (k := h) dX1_endSpeech_28 hc (by decide) rfl (by decide) rfl (by omega) (by decide) (fun r28 => ?_)
  refine go_aload_n (y := mX1_endSpeech) (pc := 29) dX1_endSpeech_29 rfl rfl ?_
  refine go_getR (y := mX1_endSpeech) (pc := 30) dX1_endSpeech_30 fl_X1_35 (ch_sh hc 0 (by decide)) rfl (ch_z (r := 0) hc (by decide)) ?_
  refine go_iload_n (y := mX1_endSpeech) (pc := 33) dX1_endSpeech_33 rfl rfl ?_
  refine go_callV1 (y := mX1_endSpeech) (pc := 34) (y' := mX0_isRebuttedAt) (kc2 := 0) (ks2 := 0) dX1_endSpeech_34 ml_X1_151 ok_X0_isRebuttedAt (ch_sh hc 15 (by decide)) ⟨_, _, rfl⟩ (ch_z (r := 15) hc (by decide)) rfl (by decide) (Nat.le_of_ble_eq_true rfl) rfl (c_isReb hc (h := h) (by omega) (fun v34 e34 b34 => ?_))
  refine go_if_eq (y := mX1_endSpeech) (pc := 37) (tgt := 44) dX1_endSpeech_37 (by decide) (by omega) (fun h37 => ?_) (fun h37 => ?_)
  · skip
    refine go_iconst (y := mX1_endSpeech) (pc := 44) dX1_endSpeech_44 ?_
    exact J46 2 (by rw [if_neg (bI_0 e34 h37)]) (by omega)
  · skip
    refine go_iconst (y := mX1_endSpeech) (pc := 40) dX1_endSpeech_40 ?_
    refine go_goto (y := mX1_endSpeech) (pc := 41) (tgt := 45) dX1_endSpeech_41 (by decide) ?_
    exact J46 1 (by rw [if_pos (bI_1 e34 h37)]) (by omega)
