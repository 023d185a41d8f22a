/-! THE MODEL: decisive voters, contradictions, the text cut -/
section MDec
variable {S s σ μ : Mem} {ν : Nat → Int}
theorem ltk_w {S s : Mem} {q : Nat} : ∀ k, (ltk S s q k).1 = -1 ∨ ∃ b : Nat, b < k ∧ (ltk S s q k).1 = (b : Int) ∧ (ltk S s q k).2 = S 2 b
  | 0 => Or.inl rfl
  | k + 1 => by
    rw [ltk]
    split
    · exact Or.inr ⟨k, by omega, rfl, rfl⟩
    · rcases ltk_w (S := S) (s := s) (q := q) k with h | ⟨b, h1, h2, h3⟩
      · exact Or.inl h
      · exact Or.inr ⟨b, by omega, h2, h3⟩
set_option maxRecDepth 8000 in
set_option maxHeartbeats 4000000 in
theorem m_decisiveVoter {m : Int} (hm : rng m) (hr : rel S s ν) (hS : wfS S) (hC : wfC S s) {Q : Option Value → Mem → Prop} {X : String → Mem → Prop} (K : ∀ k : Nat, m = k → (k : Int) < s 5 0 → Q (some (.int (iI ((ltk S s k (S 0 7).toNat).1)))) (md (wr σ 0 7 0) ν μ)) (K2 : ¬ (0 ≤ m ∧ m < s 5 0) → Q (some (.int (iI 0))) (md (wr (wr σ 0 7 0) 0 7 1) ν μ)) : mt 289 4 0 0 mX11_decisiveVoter [.ref 276, .int (iI m)] Q X (md σ ν μ) := by
  show go 289 4 0 0 mX11_decisiveVoter Q X 0 [.ref 276, .int (iI m), .null, .null] [] _
  obtain ⟨n1, n12, c1, c4⟩ := wf_n hS
  obtain ⟨q0, q16, r0, r12⟩ := wf_r hS hC
  have hmem := wf_m hS
  by_cases g : 0 ≤ m ∧ m < s 5 0
  · obtain ⟨k, rfl⟩ := Int.eq_ofNat_of_zero_le g.1
    have g2 := g.2
    have loop : ∀ (n i : Nat), (i : Int) + n = S 0 7 → go 289 4 0 0 mX11_decisiveVoter Q X 14 [.ref 276, .int (iI (k : Nat)), .int (iI ((ltk S s k i).1)), .int (iI (i : Nat))] [] (md (wr σ 0 7 0) ν μ) := by
      intro n
      induction n using Nat.strongRecOn with
      | _ n ih =>
        intro i hi
        have ih' := ih (n - 1)
        have hw := ltk_w (S := S) (s := s) (q := k) i
        have hb : -1 ≤ (ltk S s k i).1 ∧ (ltk S s k i).1 < 12 := by
          rcases hw with hw | ⟨b, h1, h2, h3⟩ <;> omega
        refine go_iload_n (y := mX11_decisiveVoter) (pc := 14) dX11_decisiveVoter_14 rfl rfl ?_
        refine go_aload_n (y := mX11_decisiveVoter) (pc := 15) dX11_decisiveVoter_15 rfl rfl ?_
        refine go_mref (y := mX11_decisiveVoter) (pc := 16) dX11_decisiveVoter_16 fl_X11_7 rfl rfl (by decide) ?_
        refine go_bipush (y := mX11_decisiveVoter) (pc := 19) dX11_decisiveVoter_19 (by decide) ?_
        refine go_nial (y := mX11_decisiveVoter) (pc := 21) (k := 8) dX11_decisiveVoter_21 (by decide) rfl (by omega) (fun r21 => ?_)
        refine go_top (b := S 0 7) (rs8 hr) (fun t21 => ?_)
        refine go_icmp_ge (y := mX11_decisiveVoter) (pc := 22) (tgt := 62) dX11_decisiveVoter_22 (by decide) (by omega) (by omega) (fun h22 => ?_) (fun h22 => ?_)
        · skip
          refine go_iload_n (y := mX11_decisiveVoter) (pc := 62) dX11_decisiveVoter_62 rfl rfl ?_
          refine go_ireturn (y := mX11_decisiveVoter) (pc := 63) dX11_decisiveVoter_63 rfl ?_
          have e : i = (S 0 7).toNat := by omega
          subst e
          exact K k rfl (by omega)
        · skip
          have hmi := hmem i (by omega)
          refine go_aload_n (y := mX11_decisiveVoter) (pc := 25) dX11_decisiveVoter_25 rfl rfl ?_
          refine go_iload_n (y := mX11_decisiveVoter) (pc := 26) dX11_decisiveVoter_26 rfl rfl ?_
          refine go_iload_n (y := mX11_decisiveVoter) (pc := 27) dX11_decisiveVoter_27 rfl rfl ?_
          refine go_callV2 (y := mX11_decisiveVoter) (pc := 28) (y' := mX11_isDecisive) (kc2 := 0) (ks2 := 0) dX11_decisiveVoter_28 ml_X11_363 ok_X11_isDecisive (show shp 276 = _ from rfl) ⟨_, _, rfl⟩ (by decide) ⟨rfl, rfl⟩ (by decide) (Nat.le_of_ble_eq_true rfl) rfl (m_isDecisive (m := i) (q := k) (by omega) (by omega) hS hC hr (fun v28 e28 b28 => ?_))
          refine go_if_eq (y := mX11_decisiveVoter) (pc := 31) (tgt := 56) dX11_decisiveVoter_31 (by decide) (by omega) (fun h31 => ?_) (fun h31 => ?_)
          · skip
            refine go_iinc (y := mX11_decisiveVoter) (pc := 56) dX11_decisiveVoter_56 rfl (by decide) ?_
            refine go_goto (y := mX11_decisiveVoter) (pc := 59) (tgt := 14) dX11_decisiveVoter_59 (by decide) ?_
            have h := ih' (by omega) (i + 1) (by omega)
            rw [ltk, if_neg (fun w => bI_0 e28 h31 w.1)] at h
            exact h
          · skip
            have d1 := bI_1 e28 h31
            refine go_iload_n (y := mX11_decisiveVoter) (pc := 34) dX11_decisiveVoter_34 rfl rfl ?_
            refine go_iconst (y := mX11_decisiveVoter) (pc := 35) dX11_decisiveVoter_35 ?_
            refine go_icmp_eq (y := mX11_decisiveVoter) (pc := 36) (tgt := 54) dX11_decisiveVoter_36 (by decide) (by omega) (by omega) (fun h36 => ?_) (fun h36 => ?_)
            · skip
              refine go_iload_n (y := mX11_decisiveVoter) (pc := 54) dX11_decisiveVoter_54 rfl rfl ?_
              refine go_istore_n (y := mX11_decisiveVoter) (pc := 55) dX11_decisiveVoter_55 rfl (by decide) ?_
              refine go_iinc (y := mX11_decisiveVoter) (pc := 56) dX11_decisiveVoter_56 rfl (by decide) ?_
              refine go_goto (y := mX11_decisiveVoter) (pc := 59) (tgt := 14) dX11_decisiveVoter_59 (by decide) ?_
              have h := ih' (by omega) (i + 1) (by omega)
              rw [ltk, if_pos ⟨d1, Or.inl h36⟩] at h
              exact h
            · skip
              rcases hw with hw | ⟨b, b1, b2, b3⟩
              · exact absurd hw h36
              · have hmb := hmem b (by omega)
                refine go_loc (i := 2) b2 rfl ?_
                refine go_aload_n (y := mX11_decisiveVoter) (pc := 39) dX11_decisiveVoter_39 rfl rfl ?_
                refine go_iload_n (y := mX11_decisiveVoter) (pc := 40) dX11_decisiveVoter_40 rfl rfl ?_
                refine go_iconst (y := mX11_decisiveVoter) (pc := 41) dX11_decisiveVoter_41 ?_
                refine go_callV2 (y := mX11_decisiveVoter) (pc := 42) (y' := mX11_of) (kc2 := 0) (ks2 := 0) dX11_decisiveVoter_42 ml_X11_100 ok_X11_of (show shp 276 = _ from rfl) ⟨_, _, rfl⟩ (by decide) ⟨rfl, rfl⟩ (by decide) (Nat.le_of_ble_eq_true rfl) rfl (m_of (m := i) (w := 1) (by omega) (by decide) (fun v42 e42 r42 => ?_))
                refine go_top (b := S 2 i) (e42.trans (rlW hr (by omega))) (fun t42 => ?_)
                refine go_aload_n (y := mX11_decisiveVoter) (pc := 45) dX11_decisiveVoter_45 rfl rfl ?_
                refine go_iload_n (y := mX11_decisiveVoter) (pc := 46) dX11_decisiveVoter_46 rfl rfl ?_
                refine go_iconst (y := mX11_decisiveVoter) (pc := 47) dX11_decisiveVoter_47 ?_
                refine go_callV2 (y := mX11_decisiveVoter) (pc := 48) (y' := mX11_of) (kc2 := 0) (ks2 := 0) dX11_decisiveVoter_48 ml_X11_100 ok_X11_of (show shp 276 = _ from rfl) ⟨_, _, rfl⟩ (by decide) ⟨rfl, rfl⟩ (by decide) (Nat.le_of_ble_eq_true rfl) rfl (m_of (m := b) (w := 1) (by omega) (by decide) (fun v48 e48 r48 => ?_))
                refine go_top (b := S 2 b) (e48.trans (rlW hr (by omega))) (fun t48 => ?_)
                refine go_icmp_ge (y := mX11_decisiveVoter) (pc := 51) (tgt := 56) dX11_decisiveVoter_51 (by decide) (by omega) (by omega) (fun h51 => ?_) (fun h51 => ?_)
                · skip
                  refine go_iinc (y := mX11_decisiveVoter) (pc := 56) dX11_decisiveVoter_56 rfl (by decide) ?_
                  refine go_goto (y := mX11_decisiveVoter) (pc := 59) (tgt := 14) dX11_decisiveVoter_59 (by decide) ?_
                  have h := ih' (by omega) (i + 1) (by omega)
                  rw [ltk, if_neg (fun w => by rcases w.2 with w9 | w9 <;> omega), b2] at h
                  exact h
                · skip
                  refine go_iload_n (y := mX11_decisiveVoter) (pc := 54) dX11_decisiveVoter_54 rfl rfl ?_
                  refine go_istore_n (y := mX11_decisiveVoter) (pc := 55) dX11_decisiveVoter_55 rfl (by decide) ?_
                  refine go_iinc (y := mX11_decisiveVoter) (pc := 56) dX11_decisiveVoter_56 rfl (by decide) ?_
                  refine go_goto (y := mX11_decisiveVoter) (pc := 59) (tgt := 14) dX11_decisiveVoter_59 (by decide) ?_
                  have h := ih' (by omega) (i + 1) (by omega)
                  rw [ltk, if_pos ⟨d1, Or.inr (by omega)⟩] at h
                  exact h
    refine go_aload_n (y := mX11_decisiveVoter) (pc := 0) dX11_decisiveVoter_0 rfl rfl ?_
    refine go_iload_n (y := mX11_decisiveVoter) (pc := 1) dX11_decisiveVoter_1 rfl rfl ?_
    refine go_callV1 (y := mX11_decisiveVoter) (pc := 2) (y' := mX11_finds) (kc2 := 0) (ks2 := 0) dX11_decisiveVoter_2 ml_X11_354 ok_X11_finds (show shp 276 = _ from rfl) ⟨_, _, rfl⟩ (by decide) rfl (by decide) (Nat.le_of_ble_eq_true rfl) rfl (m_finds (by omega) hr hS hC (fun _ => ?_) (fun h9 => absurd g h9))
    refine go_if_ne (y := mX11_decisiveVoter) (pc := 5) (tgt := 10) dX11_decisiveVoter_5 (by decide) (by omega) (fun h5 => ?_) (fun h5 => ?_)
    · skip
      refine go_iconst (y := mX11_decisiveVoter) (pc := 10) dX11_decisiveVoter_10 ?_
      refine go_istore_n (y := mX11_decisiveVoter) (pc := 11) dX11_decisiveVoter_11 rfl (by decide) ?_
      refine go_iconst (y := mX11_decisiveVoter) (pc := 12) dX11_decisiveVoter_12 ?_
      refine go_istore_n (y := mX11_decisiveVoter) (pc := 13) dX11_decisiveVoter_13 rfl (by decide) ?_
      exact loop (S 0 7).toNat 0 (by omega)
    · skip
      exact absurd h5 (by decide)
  · skip
    refine go_aload_n (y := mX11_decisiveVoter) (pc := 0) dX11_decisiveVoter_0 rfl rfl ?_
    refine go_iload_n (y := mX11_decisiveVoter) (pc := 1) dX11_decisiveVoter_1 rfl rfl ?_
    refine go_callV1 (y := mX11_decisiveVoter) (pc := 2) (y' := mX11_finds) (kc2 := 0) (ks2 := 0) dX11_decisiveVoter_2 ml_X11_354 ok_X11_finds (show shp 276 = _ from rfl) ⟨_, _, rfl⟩ (by decide) rfl (by decide) (Nat.le_of_ble_eq_true rfl) rfl (m_finds (by omega) hr hS hC (fun h9 => absurd h9 g) (fun _ => ?_))
    refine go_if_ne (y := mX11_decisiveVoter) (pc := 5) (tgt := 10) dX11_decisiveVoter_5 (by decide) (by omega) (fun h5 => ?_) (fun h5 => ?_)
    · skip
      exact absurd rfl h5
    · skip
      refine go_iconst (y := mX11_decisiveVoter) (pc := 8) dX11_decisiveVoter_8 ?_
      refine go_ireturn (y := mX11_decisiveVoter) (pc := 9) dX11_decisiveVoter_9 rfl ?_
      exact K2 g
set_option maxRecDepth 8000 in
set_option maxHeartbeats 4000000 in
theorem m_contradictions (hr : rel S s ν) (hS : wfS S) (hC : wfC S s) {Q : Option Value → Mem → Prop} {X : String → Mem → Prop} (K : Q (some (.int (iI (ctr S s)))) (md (wr σ 0 7 0) ν μ)) : mt 289 3 0 0 mX11_contradictions [.ref 276] Q X (md σ ν μ) := by
  show go 289 3 0 0 mX11_contradictions Q X 0 [.ref 276, .null, .null, .null, .null] [] _
  obtain ⟨n1, n12, c1, c4⟩ := wf_n hS
  obtain ⟨q0, q16, r0, r12⟩ := wf_r hS hC
  have loop3 : ∀ (n k : Nat), (k : Int) + n = s 11 0 → go 289 3 0 0 mX11_contradictions Q X 123 [.ref 276, .int (iI (ccn s (S 0 7).toNat)), .int (iI (cdv s (s 5 0).toNat)), .int (iI (cdd s (S 0 7).toNat + cds s k)), .int (iI (k : Nat))] [] (md (wr σ 0 7 0) ν μ) := by
    intro n
    induction n using Nat.strongRecOn with
    | _ n ih =>
      intro k hk
      have ih' := ih (n - 1)
      refine go_iload (y := mX11_contradictions) (pc := 123) dX11_contradictions_123 rfl ?_
      refine go_aload_n (y := mX11_contradictions) (pc := 125) dX11_contradictions_125 rfl rfl ?_
      refine go_mref (y := mX11_contradictions) (pc := 126) dX11_contradictions_126 fl_X11_7 rfl rfl (by decide) ?_
      refine go_bipush (y := mX11_contradictions) (pc := 129) dX11_contradictions_129 (by decide) ?_
      refine go_nial (y := mX11_contradictions) (pc := 131) (k := 11) dX11_contradictions_131 (by decide) rfl (by omega) (fun r131 => ?_)
      refine go_top (b := s 11 0) (rs11 hr) (fun t131 => ?_)
      refine go_icmp_ge (y := mX11_contradictions) (pc := 132) (tgt := 158) dX11_contradictions_132 (by decide) (by omega) (by omega) (fun h132 => ?_) (fun h132 => ?_)
      · skip
        refine go_iload_n (y := mX11_contradictions) (pc := 158) dX11_contradictions_158 rfl rfl ?_
        refine go_aload_n (y := mX11_contradictions) (pc := 159) dX11_contradictions_159 rfl rfl ?_
        refine go_mref (y := mX11_contradictions) (pc := 160) dX11_contradictions_160 fl_X11_7 rfl rfl (by decide) ?_
        refine go_bipush (y := mX11_contradictions) (pc := 163) dX11_contradictions_163 (by decide) ?_
        refine go_nial (y := mX11_contradictions) (pc := 165) (k := 16) dX11_contradictions_165 (by decide) rfl (by omega) (fun r165 => ?_)
        refine go_top (b := smf (fun m => S 4 m) (S 0 7).toNat) (rs16 hr) (fun t165 => ?_)
        refine go_iload_n (y := mX11_contradictions) (pc := 166) dX11_contradictions_166 rfl rfl ?_
        refine go_isub (y := mX11_contradictions) (pc := 167) dX11_contradictions_167 ?_
        refine go_topI (b := wp (smf (fun m => S 4 m) (S 0 7).toNat - ccn s (S 0 7).toNat)) (iI_wp _).symm ?_
        refine go_mabs (y := mX11_contradictions) (pc := 168) dX11_contradictions_168 ml_X11_125 (by decide) (Nat.le_of_ble_eq_true rfl) (wp_rng _) ?_
        refine go_iadd (y := mX11_contradictions) (pc := 171) dX11_contradictions_171 ?_
        refine go_aload_n (y := mX11_contradictions) (pc := 172) dX11_contradictions_172 rfl rfl ?_
        refine go_mref (y := mX11_contradictions) (pc := 173) dX11_contradictions_173 fl_X11_7 rfl rfl (by decide) ?_
        refine go_bipush (y := mX11_contradictions) (pc := 176) dX11_contradictions_176 (by decide) ?_
        refine go_nial (y := mX11_contradictions) (pc := 178) (k := 13) dX11_contradictions_178 (by decide) rfl (by omega) (fun r178 => ?_)
        refine go_top (b := s 0 8) (rs13 hr) (fun t178 => ?_)
        refine go_iload_n (y := mX11_contradictions) (pc := 179) dX11_contradictions_179 rfl rfl ?_
        refine go_isub (y := mX11_contradictions) (pc := 180) dX11_contradictions_180 ?_
        refine go_topI (b := wp (s 0 8 - cdv s (s 5 0).toNat)) (iI_wp _).symm ?_
        refine go_mabs (y := mX11_contradictions) (pc := 181) dX11_contradictions_181 ml_X11_125 (by decide) (Nat.le_of_ble_eq_true rfl) (wp_rng _) ?_
        refine go_iadd (y := mX11_contradictions) (pc := 184) dX11_contradictions_184 ?_
        refine go_ireturn (y := mX11_contradictions) (pc := 185) dX11_contradictions_185 rfl ?_
        have e : k = (s 11 0).toNat := by omega
        subst e
        refine ret_iI K ?_
        unfold ctr
        congr 1
        omega
      · skip
        have hq := hC.2.2.2.1 k (by omega)
        obtain ⟨j, ej⟩ := Int.eq_ofNat_of_zero_le hq.2.2.1
        refine go_aload_n (y := mX11_contradictions) (pc := 135) dX11_contradictions_135 rfl rfl ?_
        refine go_aload_n (y := mX11_contradictions) (pc := 136) dX11_contradictions_136 rfl rfl ?_
        refine go_iload (y := mX11_contradictions) (pc := 137) dX11_contradictions_137 rfl ?_
        refine go_iconst (y := mX11_contradictions) (pc := 139) dX11_contradictions_139 ?_
        refine go_callV2 (y := mX11_contradictions) (pc := 140) (y' := mX11_ofR) (kc2 := 0) (ks2 := 0) dX11_contradictions_140 ml_X11_97 ok_X11_ofR (show shp 276 = _ from rfl) ⟨_, _, rfl⟩ (by decide) ⟨rfl, rfl⟩ (by decide) (Nat.le_of_ble_eq_true rfl) rfl (m_ofR (r := k) (w := 1) (by omega) (by decide) (fun v140 e140 r140 => ?_))
        refine go_top (b := ((j : Nat) : Int)) ((e140.trans (rrA hr (by omega))).trans ej) (fun t140 => ?_)
        refine go_callV1 (y := mX11_contradictions) (pc := 143) (y' := mX11_isOpen) (kc2 := 0) (ks2 := 0) dX11_contradictions_143 ml_X11_141 ok_X11_isOpen (show shp 276 = _ from rfl) ⟨_, _, rfl⟩ (by decide) rfl (by decide) (Nat.le_of_ble_eq_true rfl) rfl (m_isOpen (q := j) (by omega) (by omega) hr (fun v143 e143 b143 => ?_))
        refine go_if_ne (y := mX11_contradictions) (pc := 146) (tgt := 152) dX11_contradictions_146 (by decide) (by omega) (fun h146 => ?_) (fun h146 => ?_)
        · skip
          refine go_iinc (y := mX11_contradictions) (pc := 152) dX11_contradictions_152 rfl (by decide) ?_
          refine go_goto (y := mX11_contradictions) (pc := 155) (tgt := 123) dX11_contradictions_155 (by decide) ?_
          have h := ih' (by omega) (k + 1) (by omega)
          rw [show cds s (k + 1) = cds s k + (if opn s (s 13 k) then 0 else 1) from rfl, if_pos ⟨by omega, by omega, by rw [ej, Int.toNat_natCast]; exact bI_1 e143 h146⟩, Int.add_zero] at h
          exact h
        · skip
          refine go_iinc (y := mX11_contradictions) (pc := 149) dX11_contradictions_149 rfl (by decide) ?_
          refine go_iinc (y := mX11_contradictions) (pc := 152) dX11_contradictions_152 rfl (by decide) ?_
          refine go_goto (y := mX11_contradictions) (pc := 155) (tgt := 123) dX11_contradictions_155 (by decide) ?_
          have h := ih' (by omega) (k + 1) (by omega)
          rw [show cds s (k + 1) = cds s k + (if opn s (s 13 k) then 0 else 1) from rfl, if_neg (fun w => bI_0 e143 h146 (by have w9 := w.2.2; rw [ej, Int.toNat_natCast] at w9; exact w9)), ← Int.add_assoc] at h
          exact h
  have loop2 : ∀ (n k : Nat), (k : Int) + n = s 5 0 → go 289 3 0 0 mX11_contradictions Q X 84 [.ref 276, .int (iI (ccn s (S 0 7).toNat)), .int (iI (cdv s k)), .int (iI (cdd s (S 0 7).toNat)), .int (iI (k : Nat))] [] (md (wr σ 0 7 0) ν μ) := by
    intro n
    induction n using Nat.strongRecOn with
    | _ n ih =>
      intro k hk
      have ih' := ih (n - 1)
      refine go_iload (y := mX11_contradictions) (pc := 84) dX11_contradictions_84 rfl ?_
      refine go_aload_n (y := mX11_contradictions) (pc := 86) dX11_contradictions_86 rfl rfl ?_
      refine go_mref (y := mX11_contradictions) (pc := 87) dX11_contradictions_87 fl_X11_7 rfl rfl (by decide) ?_
      refine go_bipush (y := mX11_contradictions) (pc := 90) dX11_contradictions_90 (by decide) ?_
      refine go_nial (y := mX11_contradictions) (pc := 92) (k := 9) dX11_contradictions_92 (by decide) rfl (by omega) (fun r92 => ?_)
      refine go_top (b := s 5 0) (rs9 hr) (fun t92 => ?_)
      refine go_icmp_ge (y := mX11_contradictions) (pc := 93) (tgt := 120) dX11_contradictions_93 (by decide) (by omega) (by omega) (fun h93 => ?_) (fun h93 => ?_)
      · skip
        refine go_iconst (y := mX11_contradictions) (pc := 120) dX11_contradictions_120 ?_
        refine go_istore (y := mX11_contradictions) (pc := 121) dX11_contradictions_121 (by decide) ?_
        have e : k = (s 5 0).toNat := by omega
        subst e
        have h := loop3 (s 11 0).toNat 0 (by omega)
        rw [show cds s 0 = 0 from rfl, Int.add_zero] at h
        exact h
      · skip
        have hq := hC.2.2.1 k (by omega)
        refine go_aload_n (y := mX11_contradictions) (pc := 96) dX11_contradictions_96 rfl rfl ?_
        refine go_iload (y := mX11_contradictions) (pc := 97) dX11_contradictions_97 rfl ?_
        refine go_iconst (y := mX11_contradictions) (pc := 99) dX11_contradictions_99 ?_
        refine go_callV2 (y := mX11_contradictions) (pc := 100) (y' := mX11_ofM) (kc2 := 0) (ks2 := 0) dX11_contradictions_100 ml_X11_90 ok_X11_ofM (show shp 276 = _ from rfl) ⟨_, _, rfl⟩ (by decide) ⟨rfl, rfl⟩ (by decide) (Nat.le_of_ble_eq_true rfl) rfl (m_ofM (q := k) (w := 3) (by omega) (by decide) (fun v100 e100 r100 => ?_))
        refine go_top (b := s 7 k) (e100.trans (rqS hr (by omega))) (fun t100 => ?_)
        refine go_iconst (y := mX11_contradictions) (pc := 103) dX11_contradictions_103 ?_
        refine go_iconst (y := mX11_contradictions) (pc := 104) dX11_contradictions_104 ?_
        refine go_callS3 (y := mX11_contradictions) (pc := 105) (y' := mX11_in) (kc2 := 0) (ks2 := 0) dX11_contradictions_105 ml_X11_86 ok_X11_in ⟨rfl, rfl, rfl⟩ (by decide) (Nat.le_of_ble_eq_true rfl) rfl (m_in (by omega) (by omega) (by omega) (fun v105 e105 b105 => ?_))
        refine go_if_eq (y := mX11_contradictions) (pc := 108) (tgt := 114) dX11_contradictions_108 (by decide) (by omega) (fun h108 => ?_) (fun h108 => ?_)
        · skip
          have g := bI_0 e105 h108
          refine go_iinc (y := mX11_contradictions) (pc := 114) dX11_contradictions_114 rfl (by decide) ?_
          refine go_goto (y := mX11_contradictions) (pc := 117) (tgt := 84) dX11_contradictions_117 (by decide) ?_
          have h := ih' (by omega) (k + 1) (by omega)
          rw [show cdv s (k + 1) = cdv s k + (if s 7 k = 1 ∨ s 7 k = 2 then 1 else 0) from rfl, if_neg (by omega), Int.add_zero] at h
          exact h
        · skip
          have g := bI_1 e105 h108
          refine go_iinc (y := mX11_contradictions) (pc := 111) dX11_contradictions_111 rfl (by decide) ?_
          refine go_iinc (y := mX11_contradictions) (pc := 114) dX11_contradictions_114 rfl (by decide) ?_
          refine go_goto (y := mX11_contradictions) (pc := 117) (tgt := 84) dX11_contradictions_117 (by decide) ?_
          have h := ih' (by omega) (k + 1) (by omega)
          rw [show cdv s (k + 1) = cdv s k + (if s 7 k = 1 ∨ s 7 k = 2 then 1 else 0) from rfl, if_pos (by omega)] at h
          exact h
  have loop1 : ∀ (n k : Nat), (k : Int) + n = S 0 7 → go 289 3 0 0 mX11_contradictions Q X 30 [.ref 276, .int (iI (ccn s k)), .int (iI 0), .int (iI (cdd s k)), .int (iI (k : Nat))] [] (md (wr σ 0 7 0) ν μ) := by
    intro n
    induction n using Nat.strongRecOn with
    | _ n ih =>
      intro k hk
      have ih' := ih (n - 1)
      refine go_iload (y := mX11_contradictions) (pc := 30) dX11_contradictions_30 rfl ?_
      refine go_aload_n (y := mX11_contradictions) (pc := 32) dX11_contradictions_32 rfl rfl ?_
      refine go_mref (y := mX11_contradictions) (pc := 33) dX11_contradictions_33 fl_X11_7 rfl rfl (by decide) ?_
      refine go_bipush (y := mX11_contradictions) (pc := 36) dX11_contradictions_36 (by decide) ?_
      refine go_nial (y := mX11_contradictions) (pc := 38) (k := 8) dX11_contradictions_38 (by decide) rfl (by omega) (fun r38 => ?_)
      refine go_top (b := S 0 7) (rs8 hr) (fun t38 => ?_)
      refine go_icmp_ge (y := mX11_contradictions) (pc := 39) (tgt := 81) dX11_contradictions_39 (by decide) (by omega) (by omega) (fun h39 => ?_) (fun h39 => ?_)
      · skip
        refine go_iconst (y := mX11_contradictions) (pc := 81) dX11_contradictions_81 ?_
        refine go_istore (y := mX11_contradictions) (pc := 82) dX11_contradictions_82 (by decide) ?_
        have e : k = (S 0 7).toNat := by omega
        subst e
        exact loop2 (s 5 0).toNat 0 (by omega)
      · skip
        have ec : cdd s (k + 1) = cdd s k + (if plc s k ≠ -1 ∧ tkn s k ≠ -1 then 1 else 0) := rfl
        refine go_iload_n (y := mX11_contradictions) (pc := 42) dX11_contradictions_42 rfl rfl ?_
        refine go_aload_n (y := mX11_contradictions) (pc := 43) dX11_contradictions_43 rfl rfl ?_
        refine go_iload (y := mX11_contradictions) (pc := 44) dX11_contradictions_44 rfl ?_
        refine go_iconst (y := mX11_contradictions) (pc := 46) dX11_contradictions_46 ?_
        refine go_callV2 (y := mX11_contradictions) (pc := 47) (y' := mX11_of) (kc2 := 0) (ks2 := 0) dX11_contradictions_47 ml_X11_100 ok_X11_of (show shp 276 = _ from rfl) ⟨_, _, rfl⟩ (by decide) ⟨rfl, rfl⟩ (by decide) (Nat.le_of_ble_eq_true rfl) rfl (m_of (m := k) (w := 3) (by omega) (by decide) (fun v47 e47 r47 => ?_))
        refine go_top (b := s 2 k) (e47.trans (rlC hr (by omega))) (fun t47 => ?_)
        refine go_iadd (y := mX11_contradictions) (pc := 50) dX11_contradictions_50 ?_
        refine go_istore_n (y := mX11_contradictions) (pc := 51) dX11_contradictions_51 rfl (by decide) ?_
        refine go_aload_n (y := mX11_contradictions) (pc := 52) dX11_contradictions_52 rfl rfl ?_
        refine go_iload (y := mX11_contradictions) (pc := 53) dX11_contradictions_53 rfl ?_
        refine go_callV1 (y := mX11_contradictions) (pc := 55) (y' := mX11_listedAt) (kc2 := 0) (ks2 := 0) dX11_contradictions_55 ml_X11_351 ok_X11_listedAt (show shp 276 = _ from rfl) ⟨_, _, rfl⟩ (by decide) rfl (by decide) (Nat.le_of_ble_eq_true rfl) rfl (m_listedAt (by omega) hr hS hC (fun v55 e55 b55 => ?_))
        refine go_iconst (y := mX11_contradictions) (pc := 58) dX11_contradictions_58 ?_
        refine go_icmp_eq (y := mX11_contradictions) (pc := 59) (tgt := 75) dX11_contradictions_59 (by decide) (by omega) (by omega) (fun h59 => ?_) (fun h59 => ?_)
        · skip
          refine go_iinc (y := mX11_contradictions) (pc := 75) dX11_contradictions_75 rfl (by decide) ?_
          refine go_goto (y := mX11_contradictions) (pc := 78) (tgt := 30) dX11_contradictions_78 (by decide) ?_
          have h := ih' (by omega) (k + 1) (by omega)
          rw [ec, if_neg (fun w => w.1 (e55.symm.trans h59)), Int.add_zero] at h
          exact h
        · skip
          refine go_aload_n (y := mX11_contradictions) (pc := 62) dX11_contradictions_62 rfl rfl ?_
          refine go_iload (y := mX11_contradictions) (pc := 63) dX11_contradictions_63 rfl ?_
          refine go_callV1 (y := mX11_contradictions) (pc := 65) (y' := mX11_seatOf) (kc2 := 0) (ks2 := 0) dX11_contradictions_65 ml_X11_348 ok_X11_seatOf (show shp 276 = _ from rfl) ⟨_, _, rfl⟩ (by decide) rfl (by decide) (Nat.le_of_ble_eq_true rfl) rfl (m_seatOf (by omega) (by omega) hr hS hC (fun v65 e65 b65 => ?_))
          refine go_iconst (y := mX11_contradictions) (pc := 68) dX11_contradictions_68 ?_
          refine go_icmp_eq (y := mX11_contradictions) (pc := 69) (tgt := 75) dX11_contradictions_69 (by decide) (by omega) (by omega) (fun h69 => ?_) (fun h69 => ?_)
          · skip
            refine go_iinc (y := mX11_contradictions) (pc := 75) dX11_contradictions_75 rfl (by decide) ?_
            refine go_goto (y := mX11_contradictions) (pc := 78) (tgt := 30) dX11_contradictions_78 (by decide) ?_
            have h := ih' (by omega) (k + 1) (by omega)
            rw [ec, if_neg (fun w => w.2 (e65.symm.trans h69)), Int.add_zero] at h
            exact h
          · skip
            refine go_iinc (y := mX11_contradictions) (pc := 72) dX11_contradictions_72 rfl (by decide) ?_
            refine go_iinc (y := mX11_contradictions) (pc := 75) dX11_contradictions_75 rfl (by decide) ?_
            refine go_goto (y := mX11_contradictions) (pc := 78) (tgt := 30) dX11_contradictions_78 (by decide) ?_
            have h := ih' (by omega) (k + 1) (by omega)
            rw [ec, if_pos ⟨fun w => h59 (e55.trans w), fun w => h69 (e65.trans w)⟩] at h
            exact h
  refine go_aload_n (y := mX11_contradictions) (pc := 0) dX11_contradictions_0 rfl rfl ?_
  refine go_iconst (y := mX11_contradictions) (pc := 1) dX11_contradictions_1 ?_
  refine go_mput (y := mX11_contradictions) (pc := 2) dX11_contradictions_2 fp_X11_83 rfl rfl (by decide) (by omega) ?_
  refine go_aload_n (y := mX11_contradictions) (pc := 5) dX11_contradictions_5 rfl rfl ?_
  refine go_mref (y := mX11_contradictions) (pc := 6) dX11_contradictions_6 fl_X11_7 rfl rfl (by decide) ?_
  refine go_bipush (y := mX11_contradictions) (pc := 9) dX11_contradictions_9 (by decide) ?_
  refine go_nial (y := mX11_contradictions) (pc := 11) (k := 12) dX11_contradictions_11 (by decide) rfl (by omega) (fun r11 => ?_)
  refine go_top (b := s 0 7) (rs12 hr) (fun t11 => ?_)
  refine go_iconst (y := mX11_contradictions) (pc := 12) dX11_contradictions_12 ?_
  refine go_aload_n (y := mX11_contradictions) (pc := 13) dX11_contradictions_13 rfl rfl ?_
  refine go_mref (y := mX11_contradictions) (pc := 14) dX11_contradictions_14 fl_X11_7 rfl rfl (by decide) ?_
  refine go_bipush (y := mX11_contradictions) (pc := 17) dX11_contradictions_17 (by decide) ?_
  refine go_nial (y := mX11_contradictions) (pc := 19) (k := 15) dX11_contradictions_19 (by decide) rfl (by omega) (fun r19 => ?_)
  refine go_top (b := s 0 10) (rs15 hr) (fun t19 => ?_)
  refine go_imul (y := mX11_contradictions) (pc := 20) dX11_contradictions_20 ?_
  refine go_iadd (y := mX11_contradictions) (pc := 21) dX11_contradictions_21 ?_
  refine go_istore_n (y := mX11_contradictions) (pc := 22) dX11_contradictions_22 rfl (by decide) ?_
  refine go_iconst (y := mX11_contradictions) (pc := 23) dX11_contradictions_23 ?_
  refine go_istore_n (y := mX11_contradictions) (pc := 24) dX11_contradictions_24 rfl (by decide) ?_
  refine go_iconst (y := mX11_contradictions) (pc := 25) dX11_contradictions_25 ?_
  refine go_istore_n (y := mX11_contradictions) (pc := 26) dX11_contradictions_26 rfl (by decide) ?_
  refine go_iconst (y := mX11_contradictions) (pc := 27) dX11_contradictions_27 ?_
  refine go_istore (y := mX11_contradictions) (pc := 28) dX11_contradictions_28 (by decide) ?_
  exact loop1 (S 0 7).toNat 0 (by omega)
set_option maxRecDepth 8000 in
set_option maxHeartbeats 4000000 in
theorem m_truncate {m : Int} (hm : rng m) (hf : 0 ≤ σ 0 9 ∧ σ 0 9 ≤ 700) {Q : Option Value → Mem → Prop} {X : String → Mem → Prop} (K : 0 ≤ m ∧ m ≤ σ 0 9 → Q (some (.int (iI (σ 0 9 - m)))) (md (wr (wr σ 0 7 0) 0 9 m) ν μ)) (K2 : ¬ (0 ≤ m ∧ m ≤ σ 0 9) → Q (some (.int (iI 0))) (md (wr (wr σ 0 7 0) 0 7 1) ν μ)) : mt 289 1 0 0 mX11_truncate [.ref 276, .int (iI m)] Q X (md σ ν μ) := by
  show go 289 1 0 0 mX11_truncate Q X 0 [.ref 276, .int (iI m), .null] [] _
  have h7 := z7 σ
  have e9 : wr σ 0 7 0 0 9 = σ 0 9 := wr_ni (by decide)
  refine go_aload_n (y := mX11_truncate) (pc := 0) dX11_truncate_0 rfl rfl ?_
  refine go_iconst (y := mX11_truncate) (pc := 1) dX11_truncate_1 ?_
  refine go_mput (y := mX11_truncate) (pc := 2) dX11_truncate_2 fp_X11_83 rfl rfl (by decide) (by omega) ?_
  refine go_aload_n (y := mX11_truncate) (pc := 5) dX11_truncate_5 rfl rfl ?_
  refine go_iload_n (y := mX11_truncate) (pc := 6) dX11_truncate_6 rfl rfl ?_
  refine go_iconst (y := mX11_truncate) (pc := 7) dX11_truncate_7 ?_
  refine go_aload_n (y := mX11_truncate) (pc := 8) dX11_truncate_8 rfl rfl ?_
  refine go_mget (y := mX11_truncate) (pc := 9) dX11_truncate_9 fl_X11_67 rfl rfl (by decide) (fun r9 => ?_)
  refine go_top (b := σ 0 9) (e9) (fun t9 => ?_)
  refine go_callS3 (y := mX11_truncate) (pc := 12) (y' := mX11_in) (kc2 := 0) (ks2 := 0) dX11_truncate_12 ml_X11_86 ok_X11_in ⟨rfl, rfl, rfl⟩ (by decide) (Nat.le_of_ble_eq_true rfl) rfl (m_in (by omega) (by omega) (by omega) (fun v12 e12 b12 => ?_))
  refine go_iconst (y := mX11_truncate) (pc := 15) dX11_truncate_15 ?_
  refine go_callV2 (y := mX11_truncate) (pc := 16) (y' := mX11_right) (kc2 := 0) (ks2 := 0) dX11_truncate_16 ml_X11_167 ok_X11_right (show shp 276 = _ from rfl) ⟨_, _, rfl⟩ (by decide) ⟨rfl, rfl⟩ (by decide) (Nat.le_of_ble_eq_true rfl) rfl (m_right h7 (by omega) (by decide) (fun v16 e16 g16 => ?_) (fun g16 => ?_))
  · skip
    refine go_if_ne (y := mX11_truncate) (pc := 19) (tgt := 24) dX11_truncate_19 (by decide) (by omega) (fun h19 => ?_) (fun h19 => ?_)
    · skip
      refine go_aload_n (y := mX11_truncate) (pc := 24) dX11_truncate_24 rfl rfl ?_
      refine go_mget (y := mX11_truncate) (pc := 25) dX11_truncate_25 fl_X11_67 rfl rfl (by decide) (fun r25 => ?_)
      refine go_top (b := σ 0 9) (e9) (fun t25 => ?_)
      refine go_iload_n (y := mX11_truncate) (pc := 28) dX11_truncate_28 rfl rfl ?_
      refine go_isub (y := mX11_truncate) (pc := 29) dX11_truncate_29 ?_
      refine go_istore_n (y := mX11_truncate) (pc := 30) dX11_truncate_30 rfl (by decide) ?_
      refine go_aload_n (y := mX11_truncate) (pc := 31) dX11_truncate_31 rfl rfl ?_
      refine go_iload_n (y := mX11_truncate) (pc := 32) dX11_truncate_32 rfl rfl ?_
      refine go_mput (y := mX11_truncate) (pc := 33) dX11_truncate_33 fp_X11_67 rfl rfl (by decide) (by omega) ?_
      refine go_iload_n (y := mX11_truncate) (pc := 36) dX11_truncate_36 rfl rfl ?_
      refine go_ireturn (y := mX11_truncate) (pc := 37) dX11_truncate_37 rfl ?_
      exact K (bI_1 e12 (by omega))
    · skip
      exact absurd h19 (by omega)
  · skip
    refine go_if_ne (y := mX11_truncate) (pc := 19) (tgt := 24) dX11_truncate_19 (by decide) (by omega) (fun h19 => ?_) (fun h19 => ?_)
    · skip
      exact absurd rfl h19
    · skip
      refine go_iconst (y := mX11_truncate) (pc := 22) dX11_truncate_22 ?_
      refine go_ireturn (y := mX11_truncate) (pc := 23) dX11_truncate_23 rfl ?_
      exact K2 (bI_0 e12 g16)
end MDec
set_option maxRecDepth 8000 in
set_option maxHeartbeats 4000000 in
theorem g_truncate {σ μ : Mem} {m : Int} (hm : rng m) {Q : Option Value → Mem → Prop} {X : String → Mem → Prop} (K : 0 ≤ m ∧ m ≤ μ 1 1 → Q (some (.int (iI (μ 1 1 - m)))) (put 20 σ (wr μ 1 1 m))) (K2 : ¬ (0 ≤ m ∧ m ≤ μ 1 1) → X "java/lang/IllegalArgumentException" (put 20 σ μ)) : mt 276 7 1 6 mX10_truncate [.ref 0, .int (iI m)] Q X (put 20 σ μ) := by
  show go 276 7 1 6 mX10_truncate Q X 0 [.ref 0, .int (iI m), .null] [] _
  have J15 : ¬ (0 ≤ m ∧ m ≤ μ 1 1) → go 276 7 1 6 mX10_truncate Q X 15 [.ref 0, .int (iI m), .null] [] (put 20 σ μ) := by
    intro g
    refine go_throw (y := mX10_truncate) (pc := 15) (i := 19) th_A rfl dX10_truncate_15 dX10_truncate_18 dX10_truncate_19 dX10_truncate_21 dX10_truncate_24 (by decide) (Nat.le_of_ble_eq_true rfl) rfl ?_
    exact K2 g
  refine go_iload_n (y := mX10_truncate) (pc := 0) dX10_truncate_0 rfl rfl ?_
  refine go_if_lt (y := mX10_truncate) (pc := 1) (tgt := 15) dX10_truncate_1 (by decide) (by omega) (fun h1 => ?_) (fun h1 => ?_)
  · skip
    exact J15 (by omega)
  · skip
    refine go_iload_n (y := mX10_truncate) (pc := 4) dX10_truncate_4 rfl rfl ?_
    refine go_aload_n (y := mX10_truncate) (pc := 5) dX10_truncate_5 rfl rfl ?_
    refine go_getR (y := mX10_truncate) (pc := 6) dX10_truncate_6 fl_X10_10 rfl rfl (by decide) ?_
    refine go_bget (y := mX10_truncate) (pc := 9) dX10_truncate_9 fl_X10_89 rfl rfl (by decide) (by decide) (fun r9 => ?_)
    refine go_icmp_le (y := mX10_truncate) (pc := 12) (tgt := 25) dX10_truncate_12 (by decide) (by omega) (by omega) (fun h12 => ?_) (fun h12 => ?_)
    · skip
      refine go_aload_n (y := mX10_truncate) (pc := 25) dX10_truncate_25 rfl rfl ?_
      refine go_getR (y := mX10_truncate) (pc := 26) dX10_truncate_26 fl_X10_10 rfl rfl (by decide) ?_
      refine go_bget (y := mX10_truncate) (pc := 29) dX10_truncate_29 fl_X10_89 rfl rfl (by decide) (by decide) (fun r29 => ?_)
      refine go_iload_n (y := mX10_truncate) (pc := 32) dX10_truncate_32 rfl rfl ?_
      refine go_isub (y := mX10_truncate) (pc := 33) dX10_truncate_33 ?_
      refine go_istore_n (y := mX10_truncate) (pc := 34) dX10_truncate_34 rfl (by decide) ?_
      refine go_aload_n (y := mX10_truncate) (pc := 35) dX10_truncate_35 rfl rfl ?_
      refine go_getR (y := mX10_truncate) (pc := 36) dX10_truncate_36 fl_X10_10 rfl rfl (by decide) ?_
      refine go_iload_n (y := mX10_truncate) (pc := 39) dX10_truncate_39 rfl rfl ?_
      refine go_bput (y := mX10_truncate) (pc := 40) dX10_truncate_40 fp_X10_89 rfl rfl (by decide) (by decide) (by omega) ?_
      refine go_iload_n (y := mX10_truncate) (pc := 43) dX10_truncate_43 rfl rfl ?_
      refine go_ireturn (y := mX10_truncate) (pc := 44) dX10_truncate_44 rfl ?_
      exact K ⟨by omega, by omega⟩
    · skip
      exact J15 (by omega)
