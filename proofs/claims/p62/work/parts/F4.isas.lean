/-! THE LAW compares: a member, a motion, all -/
set_option maxRecDepth 8000 in
set_option maxHeartbeats 4000000 in
theorem l_isMember {μ : Mem} (hS : wfS (su μ)) (hC : wfC (su μ) (vw 20 μ)) (hR : own (su μ) (vw 20 μ) (vw 276 μ)) {m : Nat} (hm : (m : Int) < su μ 0 7) {Q : Option Value → Mem → Prop} {X : String → Mem → Prop} (K : Q (some (.int (iI 1))) μ) : mt 293 8 0 0 mL_isMember [.ref 0, .ref 276, .int (iI (m : Nat))] Q X μ := by
  show go 293 8 0 0 mL_isMember Q X 0 [.ref 0, .ref 276, .int (iI (m : Nat)), .null, .null] [] _
  have n1 := wf_n hS
  have r1 := wf_r hS hC
  have hW := wf_m hS
  have hm12 : m < 12 := by omega
  have e8 : μ 276 8 = su μ 0 7 := hR.1.2.2.2.2.2.2.2.2.1
  have e9 : μ 276 9 = (vw 20 μ) 5 0 := hR.1.2.2.2.2.2.2.2.2.2.1
  have hB := hR.2.1 m hm
  have b1 : μ 277 m = su μ 2 m := hB.1
  have b3 : μ 279 m = (vw 20 μ) 2 m := hB.2.2.1
  have b4 : μ 280 m = (vw 20 μ) 3 m := hB.2.2.2.1
  have b5 : μ 281 m = (vw 20 μ) 4 m := hB.2.2.2.2
  have bm := hC.2.1 m hm
  have loop2 : ∀ (n k : Nat), (k : Int) + n = (vw 20 μ) 5 0 → go 293 8 0 0 mL_isMember Q X 33 [.ref 0, .ref 276, .int (iI (m : Nat)), .int (iI (smf (fun m => su μ 2 m) (su μ 0 7).toNat)), .int (iI (k : Nat))] [] μ := by
    intro n
    induction n using Nat.strongRecOn with
    | _ n ih =>
      intro k hk
      have ih' := ih (n - 1)
      by_cases hkn : (k : Int) = (vw 20 μ) 5 0
      · have hw := wsh_b hS hm
        have hb := smf_bd (f := fun m => su μ 2 m) (b := 9) (n := (su μ 0 7).toNat) (fun k hk => by have := hW k (by omega); omega)
        have hf := ff_n (x := su μ 2 m) (n := smf (fun m => su μ 2 m) (su μ 0 7).toNat) (by have := hW m hm; omega) ⟨hw.2.2, by omega⟩
        have hs := ff_s (x := su μ 2 m) (n := smf (fun m => su μ 2 m) (su μ 0 7).toNat) (by have := hW m hm; omega) ⟨hw.2.2, by omega⟩
        have hwm := hW m hm
        have c := fnd_ge (p := fun h => (vw 20 μ) 16 h = (m : Int)) (n := 4)
        refine go_iload (y := mL_isMember) (pc := 33) dL_isMember_33 rfl ?_
        refine go_aload_n (y := mL_isMember) (pc := 35) dL_isMember_35 rfl rfl ?_
        refine go_getI (y := mL_isMember) (pc := 36) dL_isMember_36 fl_L_60 rfl rfl (by decide) (fun r36 => ?_)
        refine go_top (b := (vw 20 μ) 5 0) (e9) (fun t36 => ?_)
        refine go_icmp_ge (y := mL_isMember) (pc := 39) (tgt := 72) dL_isMember_39 (by decide) (by omega) (by omega) (fun h39 => ?_) (fun h39 => ?_)
        · skip
          refine go_aload_n (y := mL_isMember) (pc := 72) dL_isMember_72 rfl rfl ?_
          refine go_iload_n (y := mL_isMember) (pc := 73) dL_isMember_73 rfl rfl ?_
          refine go_callV1 (y := mL_isMember) (pc := 74) (y' := mX10_weight) (kc2 := 0) (ks2 := 0) dL_isMember_74 ml_L_70 ok_X10_weight (show shp 0 = _ from rfl) ⟨_, _, rfl⟩ (by decide) rfl (by decide) (Nat.le_of_ble_eq_true rfl) rfl (q_weight hS hC (k := m) (by omega) ?_)
          refine go_aload_n (y := mL_isMember) (pc := 77) dL_isMember_77 rfl rfl ?_
          refine go_getR (y := mL_isMember) (pc := 78) dL_isMember_78 fl_L_56 rfl rfl (by decide) ?_
          refine go_iload_n (y := mL_isMember) (pc := 81) dL_isMember_81 rfl rfl ?_
          refine go_iaload (y := mL_isMember) (pc := 82) (k := m) dL_isMember_82 rfl (by decide) rfl (by omega) (by decide) (fun r82 => ?_)
          refine go_top (b := su μ 2 m) (b1) (fun t82 => ?_)
          refine go_icmp_ne (y := mL_isMember) (pc := 83) (tgt := 158) dL_isMember_83 (by decide) (by omega) (by omega) (fun h83 => ?_) (fun h83 => ?_)
          · skip
            exact absurd rfl h83
          · skip
            refine go_aload_n (y := mL_isMember) (pc := 86) dL_isMember_86 rfl rfl ?_
            refine go_iload_n (y := mL_isMember) (pc := 87) dL_isMember_87 rfl rfl ?_
            refine go_callV1 (y := mL_isMember) (pc := 88) (y' := mX10_purse) (kc2 := 0) (ks2 := 0) dL_isMember_88 ml_L_73 ok_X10_purse (show shp 0 = _ from rfl) ⟨_, _, rfl⟩ (by decide) rfl (by decide) (Nat.le_of_ble_eq_true rfl) rfl (q_purse hS hC (k := m) (by omega) ?_)
            refine go_aload_n (y := mL_isMember) (pc := 91) dL_isMember_91 rfl rfl ?_
            refine go_getR (y := mL_isMember) (pc := 92) dL_isMember_92 fl_L_76 rfl rfl (by decide) ?_
            refine go_iload_n (y := mL_isMember) (pc := 95) dL_isMember_95 rfl rfl ?_
            refine go_iaload (y := mL_isMember) (pc := 96) (k := m) dL_isMember_96 rfl (by decide) rfl (by omega) (by decide) (fun r96 => ?_)
            refine go_top (b := (vw 20 μ) 2 m) (b3) (fun t96 => ?_)
            refine go_icmp_ne (y := mL_isMember) (pc := 97) (tgt := 158) dL_isMember_97 (by decide) (by omega) (by omega) (fun h97 => ?_) (fun h97 => ?_)
            · skip
              exact absurd rfl h97
            · skip
              refine go_aload_n (y := mL_isMember) (pc := 100) dL_isMember_100 rfl rfl ?_
              refine go_iload_n (y := mL_isMember) (pc := 101) dL_isMember_101 rfl rfl ?_
              refine go_callV1 (y := mL_isMember) (pc := 102) (y' := mX10_sharpness) (kc2 := 0) (ks2 := 0) dL_isMember_102 ml_L_78 ok_X10_sharpness (show shp 0 = _ from rfl) ⟨_, _, rfl⟩ (by decide) rfl (by decide) (Nat.le_of_ble_eq_true rfl) rfl (q_sharpness hS hC (k := m) (by omega) ?_)
              refine go_aload_n (y := mL_isMember) (pc := 105) dL_isMember_105 rfl rfl ?_
              refine go_getR (y := mL_isMember) (pc := 106) dL_isMember_106 fl_L_81 rfl rfl (by decide) ?_
              refine go_iload_n (y := mL_isMember) (pc := 109) dL_isMember_109 rfl rfl ?_
              refine go_iaload (y := mL_isMember) (pc := 110) (k := m) dL_isMember_110 rfl (by decide) rfl (by omega) (by decide) (fun r110 => ?_)
              refine go_top (b := (vw 20 μ) 3 m) (b4) (fun t110 => ?_)
              refine go_icmp_ne (y := mL_isMember) (pc := 111) (tgt := 158) dL_isMember_111 (by decide) (by omega) (by omega) (fun h111 => ?_) (fun h111 => ?_)
              · skip
                exact absurd rfl h111
              · skip
                refine go_aload_n (y := mL_isMember) (pc := 114) dL_isMember_114 rfl rfl ?_
                refine go_iload_n (y := mL_isMember) (pc := 115) dL_isMember_115 rfl rfl ?_
                refine go_callV1 (y := mL_isMember) (pc := 116) (y' := mX10_speechesOf) (kc2 := 0) (ks2 := 0) dL_isMember_116 ml_L_84 ok_X10_speechesOf (show shp 0 = _ from rfl) ⟨_, _, rfl⟩ (by decide) rfl (by decide) (Nat.le_of_ble_eq_true rfl) rfl (q_speechesOf hS hC (k := m) (by omega) ?_)
                refine go_aload_n (y := mL_isMember) (pc := 119) dL_isMember_119 rfl rfl ?_
                refine go_getR (y := mL_isMember) (pc := 120) dL_isMember_120 fl_L_87 rfl rfl (by decide) ?_
                refine go_iload_n (y := mL_isMember) (pc := 123) dL_isMember_123 rfl rfl ?_
                refine go_iaload (y := mL_isMember) (pc := 124) (k := m) dL_isMember_124 rfl (by decide) rfl (by omega) (by decide) (fun r124 => ?_)
                refine go_top (b := (vw 20 μ) 4 m) (b5) (fun t124 => ?_)
                refine go_icmp_ne (y := mL_isMember) (pc := 125) (tgt := 158) dL_isMember_125 (by decide) (by rw [← t124]; exact r124) (by rw [← t124]; exact r124) (fun h125 => ?_) (fun h125 => ?_)
                · skip
                  exact absurd rfl h125
                · skip
                  refine go_aload_n (y := mL_isMember) (pc := 128) dL_isMember_128 rfl rfl ?_
                  refine go_iload_n (y := mL_isMember) (pc := 129) dL_isMember_129 rfl rfl ?_
                  refine go_callV1 (y := mL_isMember) (pc := 130) (y' := mX10_chairOf) (kc2 := 0) (ks2 := 0) dL_isMember_130 ml_L_90 ok_X10_chairOf (show shp 0 = _ from rfl) ⟨_, _, rfl⟩ (by decide) rfl (by decide) (Nat.le_of_ble_eq_true rfl) rfl (q_chairOf hS hC (k := m) (by omega) ?_)
                  refine go_top (b := tkn (vw 20 μ) m) (rfl) (fun t130 => ?_)
                  refine go_aload_n (y := mL_isMember) (pc := 133) dL_isMember_133 rfl rfl ?_
                  refine go_iload_n (y := mL_isMember) (pc := 134) dL_isMember_134 rfl rfl ?_
                  refine go_callV1 (y := mL_isMember) (pc := 135) (y' := mX11_chair) (kc2 := 0) (ks2 := 0) dL_isMember_135 ml_L_93 ok_X11_chair (show shp 276 = _ from rfl) ⟨_, _, rfl⟩ (by decide) rfl (by decide) (Nat.le_of_ble_eq_true rfl) rfl (p_chair (z := 293) (w := 276) (Or.inl rfl) (by decide) hS hC hR (by omega) (by omega) (fun v135 e135 b135 => ?_))
                  refine go_top (b := tkn (vw 20 μ) m) (e135) (fun t135 => ?_)
                  refine go_icmp_ne (y := mL_isMember) (pc := 138) (tgt := 158) dL_isMember_138 (by decide) (by omega) (by omega) (fun h138 => ?_) (fun h138 => ?_)
                  · skip
                    exact absurd rfl h138
                  · skip
                    refine go_aload_n (y := mL_isMember) (pc := 141) dL_isMember_141 rfl rfl ?_
                    refine go_iload_n (y := mL_isMember) (pc := 142) dL_isMember_142 rfl rfl ?_
                    refine go_callV1 (y := mL_isMember) (pc := 143) (y' := mX10_placeInList) (kc2 := 0) (ks2 := 0) dL_isMember_143 ml_L_96 ok_X10_placeInList (show shp 0 = _ from rfl) ⟨_, _, rfl⟩ (by decide) rfl (by decide) (Nat.le_of_ble_eq_true rfl) rfl (q_placeInList hS hC (k := m) (by omega) ?_)
                    refine go_top (b := plc (vw 20 μ) m) (rfl) (fun t143 => ?_)
                    refine go_aload_n (y := mL_isMember) (pc := 146) dL_isMember_146 rfl rfl ?_
                    refine go_iload_n (y := mL_isMember) (pc := 147) dL_isMember_147 rfl rfl ?_
                    refine go_callV1 (y := mL_isMember) (pc := 148) (y' := mX11_listed) (kc2 := 0) (ks2 := 0) dL_isMember_148 ml_L_99 ok_X11_listed (show shp 276 = _ from rfl) ⟨_, _, rfl⟩ (by decide) rfl (by decide) (Nat.le_of_ble_eq_true rfl) rfl (p_listed (z := 293) (w := 276) (Or.inl rfl) (by decide) hS hC hR (by omega) (fun v148 e148 b148 => ?_))
                    refine go_top (b := plc (vw 20 μ) m) (e148) (fun t148 => ?_)
                    refine go_icmp_ne (y := mL_isMember) (pc := 151) (tgt := 158) dL_isMember_151 (by decide) (by omega) (by omega) (fun h151 => ?_) (fun h151 => ?_)
                    · skip
                      exact absurd rfl h151
                    · skip
                      refine go_iconst (y := mL_isMember) (pc := 154) dL_isMember_154 ?_
                      refine go_goto (y := mL_isMember) (pc := 155) (tgt := 159) dL_isMember_155 (by decide) ?_
                      refine go_istore (y := mL_isMember) (pc := 159) dL_isMember_159 (by decide) ?_
                      refine go_iload (y := mL_isMember) (pc := 161) dL_isMember_161 rfl ?_
                      refine go_if_eq (y := mL_isMember) (pc := 163) (tgt := 194) dL_isMember_163 (by decide) (by omega) (fun h163 => ?_) (fun h163 => ?_)
                      · skip
                        exact absurd h163 (by decide)
                      · skip
                        refine go_aload_n (y := mL_isMember) (pc := 166) dL_isMember_166 rfl rfl ?_
                        refine go_iload_n (y := mL_isMember) (pc := 167) dL_isMember_167 rfl rfl ?_
                        refine go_callV1 (y := mL_isMember) (pc := 168) (y' := mX10_weightShare) (kc2 := 0) (ks2 := 0) dL_isMember_168 ml_L_102 ok_X10_weightShare (show shp 0 = _ from rfl) ⟨_, _, rfl⟩ (by decide) rfl (by decide) (Nat.le_of_ble_eq_true rfl) rfl (q_weightShare hS hC (k := m) (by omega) ?_)
                        refine go_callSF1 (y := mL_isMember) (pc := 171) (y' := mJxf58ca_floatToIntBits_5c35a) (kc2 := 0) (ks2 := 0) dL_isMember_171 ml_L_106 ok_Jxf58ca_floatToIntBits_5c35a rfl (by decide) (Nat.le_of_ble_eq_true rfl) rfl (j_f2ib (z := 293) hs ?_)
                        refine go_aload_n (y := mL_isMember) (pc := 174) dL_isMember_174 rfl rfl ?_
                        refine go_getR (y := mL_isMember) (pc := 175) dL_isMember_175 fl_L_56 rfl rfl (by decide) ?_
                        refine go_iload_n (y := mL_isMember) (pc := 178) dL_isMember_178 rfl rfl ?_
                        refine go_iaload (y := mL_isMember) (pc := 179) (k := m) dL_isMember_179 rfl (by decide) rfl (by omega) (by decide) (fun r179 => ?_)
                        refine go_top (b := su μ 2 m) (b1) (fun t179 => ?_)
                        refine go_i2f (y := mL_isMember) (pc := 180) dL_isMember_180 ?_
                        refine go_iload_n (y := mL_isMember) (pc := 181) dL_isMember_181 rfl rfl ?_
                        refine go_i2f (y := mL_isMember) (pc := 182) dL_isMember_182 ?_
                        refine go_fdiv (y := mL_isMember) (pc := 183) dL_isMember_183 hf.1 ?_
                        refine go_callSF1 (y := mL_isMember) (pc := 184) (y' := mJxf58ca_floatToIntBits_5c35a) (kc2 := 0) (ks2 := 0) dL_isMember_184 ml_L_106 ok_Jxf58ca_floatToIntBits_5c35a rfl (by decide) (Nat.le_of_ble_eq_true rfl) rfl (j_f2ib (z := 293) hs ?_)
                        refine go_icmp_ne (y := mL_isMember) (pc := 187) (tgt := 194) dL_isMember_187 (by decide) (rng_t _) (rng_t _) (fun h187 => ?_) (fun h187 => ?_)
                        · skip
                          exact absurd rfl h187
                        · skip
                          refine go_iconst (y := mL_isMember) (pc := 190) dL_isMember_190 ?_
                          refine go_goto (y := mL_isMember) (pc := 191) (tgt := 195) dL_isMember_191 (by decide) ?_
                          refine go_zreturn (y := mL_isMember) (pc := 195) dL_isMember_195 rfl (by omega) ?_
                          exact K
        · skip
          exact absurd h39 (by omega)
      · have l1 : μ 286 (16 * m + k) = ln (vw 20 μ) m k := (hR.2.2.1 k (by omega)).2.2.2.2 m hm
        have l2 := (hC.2.2.1 k (by omega)).2.2.2.2.2.2.2.2 m hm
        refine go_iload (y := mL_isMember) (pc := 33) dL_isMember_33 rfl ?_
        refine go_aload_n (y := mL_isMember) (pc := 35) dL_isMember_35 rfl rfl ?_
        refine go_getI (y := mL_isMember) (pc := 36) dL_isMember_36 fl_L_60 rfl rfl (by decide) (fun r36 => ?_)
        refine go_top (b := (vw 20 μ) 5 0) (e9) (fun t36 => ?_)
        refine go_icmp_ge (y := mL_isMember) (pc := 39) (tgt := 72) dL_isMember_39 (by decide) (by omega) (by omega) (fun h39 => ?_) (fun h39 => ?_)
        · skip
          exact absurd h39 (by omega)
        · skip
          refine go_aload_n (y := mL_isMember) (pc := 42) dL_isMember_42 rfl rfl ?_
          refine go_iload_n (y := mL_isMember) (pc := 43) dL_isMember_43 rfl rfl ?_
          refine go_iload (y := mL_isMember) (pc := 44) dL_isMember_44 rfl ?_
          refine go_callV2 (y := mL_isMember) (pc := 46) (y' := mX10_leaning) (kc2 := 0) (ks2 := 0) dL_isMember_46 ml_L_63 ok_X10_leaning (show shp 0 = _ from rfl) ⟨_, _, rfl⟩ (by decide) ⟨rfl, rfl⟩ (by decide) (Nat.le_of_ble_eq_true rfl) rfl (q_leaning hS hC (k := m) (j := k) (by omega) (by omega) ?_)
          refine go_aload_n (y := mL_isMember) (pc := 49) dL_isMember_49 rfl rfl ?_
          refine go_getR (y := mL_isMember) (pc := 50) dL_isMember_50 fl_L_67 rfl rfl (by decide) ?_
          refine go_bipush (y := mL_isMember) (pc := 53) dL_isMember_53 (by decide) ?_
          refine go_iload_n (y := mL_isMember) (pc := 55) dL_isMember_55 rfl rfl ?_
          refine go_imul (y := mL_isMember) (pc := 56) dL_isMember_56 ?_
          refine go_iload (y := mL_isMember) (pc := 57) dL_isMember_57 rfl ?_
          refine go_iadd (y := mL_isMember) (pc := 59) dL_isMember_59 ?_
          refine go_iaload (y := mL_isMember) (pc := 60) (k := ((16 * m) + k)) dL_isMember_60 rfl (by decide) (by omega) (by omega) (by decide) (fun r60 => ?_)
          refine go_top (b := ln (vw 20 μ) m k) (l1) (fun t60 => ?_)
          refine go_icmp_eq (y := mL_isMember) (pc := 61) (tgt := 66) dL_isMember_61 (by decide) (by omega) (by omega) (fun h61 => ?_) (fun h61 => ?_)
          · skip
            refine go_iinc (y := mL_isMember) (pc := 66) dL_isMember_66 rfl (by decide) ?_
            refine go_goto (y := mL_isMember) (pc := 69) (tgt := 33) dL_isMember_69 (by decide) ?_
            exact ih' (by omega) (k + 1) (by omega)
          · skip
            exact absurd rfl h61
  have loop1 : ∀ (n k : Nat), (k : Int) + n = su μ 0 7 → go 293 8 0 0 mL_isMember Q X 5 [.ref 0, .ref 276, .int (iI (m : Nat)), .int (iI (smf (fun m => su μ 2 m) k)), .int (iI (k : Nat))] [] μ := by
    intro n
    induction n using Nat.strongRecOn with
    | _ n ih =>
      intro k hk
      have ih' := ih (n - 1)
      by_cases hkn : (k : Int) = su μ 0 7
      · have e : k = (su μ 0 7).toNat := by omega
        subst e
        refine go_iload (y := mL_isMember) (pc := 5) dL_isMember_5 rfl ?_
        refine go_aload_n (y := mL_isMember) (pc := 7) dL_isMember_7 rfl rfl ?_
        refine go_getI (y := mL_isMember) (pc := 8) dL_isMember_8 fl_L_50 rfl rfl (by decide) (fun r8 => ?_)
        refine go_top (b := su μ 0 7) (e8) (fun t8 => ?_)
        refine go_icmp_ge (y := mL_isMember) (pc := 11) (tgt := 30) dL_isMember_11 (by decide) (by omega) (by omega) (fun h11 => ?_) (fun h11 => ?_)
        · skip
          refine go_iconst (y := mL_isMember) (pc := 30) dL_isMember_30 ?_
          refine go_istore (y := mL_isMember) (pc := 31) dL_isMember_31 (by decide) ?_
          exact loop2 ((vw 20 μ) 5 0).toNat 0 (by omega)
        · skip
          exact absurd h11 (by omega)
      · have c1 : μ 277 k = su μ 2 k := (hR.2.1 k (by omega)).1
        refine go_iload (y := mL_isMember) (pc := 5) dL_isMember_5 rfl ?_
        refine go_aload_n (y := mL_isMember) (pc := 7) dL_isMember_7 rfl rfl ?_
        refine go_getI (y := mL_isMember) (pc := 8) dL_isMember_8 fl_L_50 rfl rfl (by decide) (fun r8 => ?_)
        refine go_top (b := su μ 0 7) (e8) (fun t8 => ?_)
        refine go_icmp_ge (y := mL_isMember) (pc := 11) (tgt := 30) dL_isMember_11 (by decide) (by omega) (by omega) (fun h11 => ?_) (fun h11 => ?_)
        · skip
          exact absurd h11 (by omega)
        · skip
          refine go_iload_n (y := mL_isMember) (pc := 14) dL_isMember_14 rfl rfl ?_
          refine go_aload_n (y := mL_isMember) (pc := 15) dL_isMember_15 rfl rfl ?_
          refine go_getR (y := mL_isMember) (pc := 16) dL_isMember_16 fl_L_56 rfl rfl (by decide) ?_
          refine go_iload (y := mL_isMember) (pc := 19) dL_isMember_19 rfl ?_
          refine go_iaload (y := mL_isMember) (pc := 21) (k := k) dL_isMember_21 rfl (by decide) rfl (by omega) (by decide) (fun r21 => ?_)
          refine go_top (b := su μ 2 k) (c1) (fun t21 => ?_)
          refine go_iadd (y := mL_isMember) (pc := 22) dL_isMember_22 ?_
          refine go_istore_n (y := mL_isMember) (pc := 23) dL_isMember_23 rfl (by decide) ?_
          refine go_iinc (y := mL_isMember) (pc := 24) dL_isMember_24 rfl (by decide) ?_
          refine go_goto (y := mL_isMember) (pc := 27) (tgt := 5) dL_isMember_27 (by decide) ?_
          exact ih' (by omega) (k + 1) (by omega)
  refine go_iconst (y := mL_isMember) (pc := 0) dL_isMember_0 ?_
  refine go_istore_n (y := mL_isMember) (pc := 1) dL_isMember_1 rfl (by decide) ?_
  refine go_iconst (y := mL_isMember) (pc := 2) dL_isMember_2 ?_
  refine go_istore (y := mL_isMember) (pc := 3) dL_isMember_3 (by decide) ?_
  exact loop1 (su μ 0 7).toNat 0 (by omega)
set_option maxRecDepth 8000 in
set_option maxHeartbeats 4000000 in
theorem l_isMotion {μ : Mem} (hS : wfS (su μ)) (hC : wfC (su μ) (vw 20 μ)) (hR : own (su μ) (vw 20 μ) (vw 276 μ)) {q : Nat} (hq : (q : Int) < (vw 20 μ) 5 0) {Q : Option Value → Mem → Prop} {X : String → Mem → Prop} (K : Q (some (.int (iI 1))) μ) : mt 293 8 0 0 mL_isMotion [.ref 0, .ref 276, .int (iI (q : Nat))] Q X μ := by
  show go 293 8 0 0 mL_isMotion Q X 0 [.ref 0, .ref 276, .int (iI (q : Nat)), .null, .null] [] _
  have n1 := wf_n hS
  have r1 := wf_r hS hC
  have hq16 : q < 16 := by omega
  have e8 : μ 276 8 = su μ 0 7 := hR.1.2.2.2.2.2.2.2.2.1
  have hQ := hR.2.2.1 q hq
  have q6 : μ 282 q = (vw 20 μ) 6 q := hQ.1
  have q7 : μ 284 q = (vw 20 μ) 7 q := hQ.2.2.1
  have q8 : μ 283 q = (vw 20 μ) 8 q := hQ.2.1
  have bq := hC.2.2.1 q hq
  have hmn := mnl_b hS hC hq
  have hsb := smf_ab (f := fun m => ln (vw 20 μ) m q) (b := 20) (n := (su μ 0 7).toNat) (fun k hk => bq.2.2.2.2.2.2.2.2 k (by omega))
  have e12 : (((su μ 0 7).toNat : Nat) : Int) ≤ 12 := by omega
  have hds := dd_s (x := smf (fun m => ln (vw 20 μ) m q) (su μ 0 7).toNat) (n := su μ 0 7) (by omega) ⟨by omega, by omega⟩
  have tail : go 293 8 0 0 mL_isMotion Q X 35 [.ref 0, .ref 276, .int (iI (q : Nat)), .int (iI (smf (fun m => ln (vw 20 μ) m q) (su μ 0 7).toNat)), .null] [] μ := by
    have J168 : ∀ (v : Int) (u4 : Value), v = bI (0 < mgn (su μ) (vw 20 μ) q) → go 293 8 0 0 mL_isMotion Q X 168 [.ref 0, .ref 276, .int (iI (q : Nat)), .int (iI (smf (fun m => ln (vw 20 μ) m q) (su μ 0 7).toNat)), u4] [.int (iI v), .int (iI (bI (0 < mgn (su μ) (vw 20 μ) q)))] μ := by
      intro v u4 hv
      have hb := bI_01 (0 < mgn (su μ) (vw 20 μ) q)
      refine go_icmp_ne (y := mL_isMotion) (pc := 168) (tgt := 205) dL_isMotion_168 (by decide) (by omega) (by omega) (fun h168 => ?_) (fun h168 => ?_)
      · skip
        exact absurd hv.symm h168
      · skip
        refine go_aload_n (y := mL_isMotion) (pc := 171) dL_isMotion_171 rfl rfl ?_
        refine go_iload_n (y := mL_isMotion) (pc := 172) dL_isMotion_172 rfl rfl ?_
        refine go_callV1 (y := mL_isMotion) (pc := 173) (y' := mX10_decisiveVoter) (kc2 := 0) (ks2 := 0) dL_isMotion_173 ml_L_151 ok_X10_decisiveVoter (show shp 0 = _ from rfl) ⟨_, _, rfl⟩ (by decide) rfl (by decide) (Nat.le_of_ble_eq_true rfl) rfl (q_decisiveVoter hS hC (k := q) (by omega) ?_)
        refine go_top (b := (ltk (su μ) (vw 20 μ) q (su μ 0 7).toNat).1) (rfl) (fun t173 => ?_)
        refine go_aload_n (y := mL_isMotion) (pc := 176) dL_isMotion_176 rfl rfl ?_
        refine go_iload_n (y := mL_isMotion) (pc := 177) dL_isMotion_177 rfl rfl ?_
        refine go_callV1 (y := mL_isMotion) (pc := 178) (y' := mX11_decisive) (kc2 := 0) (ks2 := 0) dL_isMotion_178 ml_L_154 ok_X11_decisive (show shp 276 = _ from rfl) ⟨_, _, rfl⟩ (by decide) rfl (by decide) (Nat.le_of_ble_eq_true rfl) rfl (p_decisive (z := 293) (w := 276) (Or.inl rfl) (by decide) hS hC hR (q := q) (by omega) (fun v178 e178 b178 => ?_))
        refine go_top (b := (ltk (su μ) (vw 20 μ) q (su μ 0 7).toNat).1) (e178) (fun t178 => ?_)
        refine go_icmp_ne (y := mL_isMotion) (pc := 181) (tgt := 205) dL_isMotion_181 (by decide) (by omega) (by omega) (fun h181 => ?_) (fun h181 => ?_)
        · skip
          exact absurd rfl h181
        · skip
          refine go_aload_n (y := mL_isMotion) (pc := 184) dL_isMotion_184 rfl rfl ?_
          refine go_iload_n (y := mL_isMotion) (pc := 185) dL_isMotion_185 rfl rfl ?_
          refine go_callV1 (y := mL_isMotion) (pc := 186) (y' := mX10_meanLeaning) (kc2 := 0) (ks2 := 0) dL_isMotion_186 ml_L_157 ok_X10_meanLeaning (show shp 0 = _ from rfl) ⟨_, _, rfl⟩ (by decide) rfl (by decide) (Nat.le_of_ble_eq_true rfl) rfl (q_meanLeaning hS hC (k := q) (by omega) ?_)
          refine go_iload_n (y := mL_isMotion) (pc := 189) dL_isMotion_189 rfl rfl ?_
          refine go_i2d (y := mL_isMotion) (pc := 190) dL_isMotion_190 ?_
          refine go_aload_n (y := mL_isMotion) (pc := 191) dL_isMotion_191 rfl rfl ?_
          refine go_getI (y := mL_isMotion) (pc := 192) dL_isMotion_192 fl_L_50 rfl rfl (by decide) (fun r192 => ?_)
          refine go_top (b := su μ 0 7) (e8) (fun t192 => ?_)
          refine go_i2d (y := mL_isMotion) (pc := 195) dL_isMotion_195 ?_
          refine go_ddiv (y := mL_isMotion) (pc := 196) dL_isMotion_196 hmn ?_
          refine go_dcmp (y := mL_isMotion) (pc := 197) (v := 0) dL_isMotion_197 hds ?_
          refine go_if_ne (y := mL_isMotion) (pc := 198) (tgt := 205) dL_isMotion_198 (by decide) (by omega) (fun h198 => ?_) (fun h198 => ?_)
          · skip
            exact absurd rfl h198
          · skip
            refine go_iconst (y := mL_isMotion) (pc := 201) dL_isMotion_201 ?_
            refine go_goto (y := mL_isMotion) (pc := 202) (tgt := 206) dL_isMotion_202 (by decide) ?_
            refine go_zreturn (y := mL_isMotion) (pc := 206) dL_isMotion_206 rfl (by omega) ?_
            exact K
    refine go_aload_n (y := mL_isMotion) (pc := 35) dL_isMotion_35 rfl rfl ?_
    refine go_iload_n (y := mL_isMotion) (pc := 36) dL_isMotion_36 rfl rfl ?_
    refine go_callV1 (y := mL_isMotion) (pc := 37) (y' := mX10_proposer) (kc2 := 0) (ks2 := 0) dL_isMotion_37 ml_L_112 ok_X10_proposer (show shp 0 = _ from rfl) ⟨_, _, rfl⟩ (by decide) rfl (by decide) (Nat.le_of_ble_eq_true rfl) rfl (q_proposer hS hC (k := q) (by omega) ?_)
    refine go_aload_n (y := mL_isMotion) (pc := 40) dL_isMotion_40 rfl rfl ?_
    refine go_getR (y := mL_isMotion) (pc := 41) dL_isMotion_41 fl_L_115 rfl rfl (by decide) ?_
    refine go_iload_n (y := mL_isMotion) (pc := 44) dL_isMotion_44 rfl rfl ?_
    refine go_iaload (y := mL_isMotion) (pc := 45) (k := q) dL_isMotion_45 rfl (by decide) rfl (by omega) (by decide) (fun r45 => ?_)
    refine go_top (b := (vw 20 μ) 6 q) (q6) (fun t45 => ?_)
    refine go_icmp_ne (y := mL_isMotion) (pc := 46) (tgt := 135) dL_isMotion_46 (by decide) (by omega) (by omega) (fun h46 => ?_) (fun h46 => ?_)
    · skip
      exact absurd rfl h46
    · skip
      refine go_aload_n (y := mL_isMotion) (pc := 49) dL_isMotion_49 rfl rfl ?_
      refine go_iload_n (y := mL_isMotion) (pc := 50) dL_isMotion_50 rfl rfl ?_
      refine go_callV1 (y := mL_isMotion) (pc := 51) (y' := mX10_motionState) (kc2 := 0) (ks2 := 0) dL_isMotion_51 ml_L_117 ok_X10_motionState (show shp 0 = _ from rfl) ⟨_, _, rfl⟩ (by decide) rfl (by decide) (Nat.le_of_ble_eq_true rfl) rfl (q_motionState hS hC (k := q) (by omega) ?_)
      refine go_aload_n (y := mL_isMotion) (pc := 54) dL_isMotion_54 rfl rfl ?_
      refine go_getR (y := mL_isMotion) (pc := 55) dL_isMotion_55 fl_L_120 rfl rfl (by decide) ?_
      refine go_iload_n (y := mL_isMotion) (pc := 58) dL_isMotion_58 rfl rfl ?_
      refine go_iaload (y := mL_isMotion) (pc := 59) (k := q) dL_isMotion_59 rfl (by decide) rfl (by omega) (by decide) (fun r59 => ?_)
      refine go_top (b := (vw 20 μ) 7 q) (q7) (fun t59 => ?_)
      refine go_icmp_ne (y := mL_isMotion) (pc := 60) (tgt := 135) dL_isMotion_60 (by decide) (by omega) (by omega) (fun h60 => ?_) (fun h60 => ?_)
      · skip
        exact absurd rfl h60
      · skip
        refine go_aload_n (y := mL_isMotion) (pc := 63) dL_isMotion_63 rfl rfl ?_
        refine go_iload_n (y := mL_isMotion) (pc := 64) dL_isMotion_64 rfl rfl ?_
        refine go_callV1 (y := mL_isMotion) (pc := 65) (y' := mX10_lather) (kc2 := 0) (ks2 := 0) dL_isMotion_65 ml_L_123 ok_X10_lather (show shp 0 = _ from rfl) ⟨_, _, rfl⟩ (by decide) rfl (by decide) (Nat.le_of_ble_eq_true rfl) rfl (q_lather hS hC (k := q) (by omega) ?_)
        refine go_aload_n (y := mL_isMotion) (pc := 68) dL_isMotion_68 rfl rfl ?_
        refine go_getR (y := mL_isMotion) (pc := 69) dL_isMotion_69 fl_L_126 rfl rfl (by decide) ?_
        refine go_iload_n (y := mL_isMotion) (pc := 72) dL_isMotion_72 rfl rfl ?_
        refine go_iaload (y := mL_isMotion) (pc := 73) (k := q) dL_isMotion_73 rfl (by decide) rfl (by omega) (by decide) (fun r73 => ?_)
        refine go_top (b := (vw 20 μ) 8 q) (q8) (fun t73 => ?_)
        refine go_icmp_ne (y := mL_isMotion) (pc := 74) (tgt := 135) dL_isMotion_74 (by decide) (by omega) (by omega) (fun h74 => ?_) (fun h74 => ?_)
        · skip
          exact absurd rfl h74
        · skip
          refine go_aload_n (y := mL_isMotion) (pc := 77) dL_isMotion_77 rfl rfl ?_
          refine go_iload_n (y := mL_isMotion) (pc := 78) dL_isMotion_78 rfl rfl ?_
          refine go_callV1 (y := mL_isMotion) (pc := 79) (y' := mX10_weightFor) (kc2 := 0) (ks2 := 0) dL_isMotion_79 ml_L_128 ok_X10_weightFor (show shp 0 = _ from rfl) ⟨_, _, rfl⟩ (by decide) rfl (by decide) (Nat.le_of_ble_eq_true rfl) rfl (q_weightFor hS hC (k := q) (by omega) ?_)
          refine go_aload_n (y := mL_isMotion) (pc := 82) dL_isMotion_82 rfl rfl ?_
          refine go_iload_n (y := mL_isMotion) (pc := 83) dL_isMotion_83 rfl rfl ?_
          refine go_iconst (y := mL_isMotion) (pc := 84) dL_isMotion_84 ?_
          refine go_callV2 (y := mL_isMotion) (pc := 85) (y' := mX11_side) (kc2 := 0) (ks2 := 0) dL_isMotion_85 ml_L_131 ok_X11_side (show shp 276 = _ from rfl) ⟨_, _, rfl⟩ (by decide) ⟨rfl, rfl⟩ (by decide) (Nat.le_of_ble_eq_true rfl) rfl (p_side (z := 293) (w := 276) (Or.inl rfl) (by decide) hS hC hR (q := q) (by omega) (by omega) (fun v85 e85 b85 => ?_))
          refine go_top (b := wvt (su μ) (vw 20 μ) q 1) (e85) (fun t85 => ?_)
          refine go_icmp_ne (y := mL_isMotion) (pc := 88) (tgt := 135) dL_isMotion_88 (by decide) (by omega) (by omega) (fun h88 => ?_) (fun h88 => ?_)
          · skip
            exact absurd rfl h88
          · skip
            refine go_aload_n (y := mL_isMotion) (pc := 91) dL_isMotion_91 rfl rfl ?_
            refine go_iload_n (y := mL_isMotion) (pc := 92) dL_isMotion_92 rfl rfl ?_
            refine go_callV1 (y := mL_isMotion) (pc := 93) (y' := mX10_weightAgainst) (kc2 := 0) (ks2 := 0) dL_isMotion_93 ml_L_134 ok_X10_weightAgainst (show shp 0 = _ from rfl) ⟨_, _, rfl⟩ (by decide) rfl (by decide) (Nat.le_of_ble_eq_true rfl) rfl (q_weightAgainst hS hC (k := q) (by omega) ?_)
            refine go_aload_n (y := mL_isMotion) (pc := 96) dL_isMotion_96 rfl rfl ?_
            refine go_iload_n (y := mL_isMotion) (pc := 97) dL_isMotion_97 rfl rfl ?_
            refine go_iconst (y := mL_isMotion) (pc := 98) dL_isMotion_98 ?_
            refine go_callV2 (y := mL_isMotion) (pc := 99) (y' := mX11_side) (kc2 := 0) (ks2 := 0) dL_isMotion_99 ml_L_131 ok_X11_side (show shp 276 = _ from rfl) ⟨_, _, rfl⟩ (by decide) ⟨rfl, rfl⟩ (by decide) (Nat.le_of_ble_eq_true rfl) rfl (p_side (z := 293) (w := 276) (Or.inl rfl) (by decide) hS hC hR (q := q) (by omega) (by omega) (fun v99 e99 b99 => ?_))
            refine go_top (b := wvt (su μ) (vw 20 μ) q (-1)) (e99) (fun t99 => ?_)
            refine go_icmp_ne (y := mL_isMotion) (pc := 102) (tgt := 135) dL_isMotion_102 (by decide) (by omega) (by omega) (fun h102 => ?_) (fun h102 => ?_)
            · skip
              exact absurd rfl h102
            · skip
              refine go_aload_n (y := mL_isMotion) (pc := 105) dL_isMotion_105 rfl rfl ?_
              refine go_iload_n (y := mL_isMotion) (pc := 106) dL_isMotion_106 rfl rfl ?_
              refine go_callV1 (y := mL_isMotion) (pc := 107) (y' := mX10_voterCount) (kc2 := 0) (ks2 := 0) dL_isMotion_107 ml_L_137 ok_X10_voterCount (show shp 0 = _ from rfl) ⟨_, _, rfl⟩ (by decide) rfl (by decide) (Nat.le_of_ble_eq_true rfl) rfl (q_voterCount hS hC (k := q) (by omega) ?_)
              refine go_aload_n (y := mL_isMotion) (pc := 110) dL_isMotion_110 rfl rfl ?_
              refine go_iload_n (y := mL_isMotion) (pc := 111) dL_isMotion_111 rfl rfl ?_
              refine go_callV1 (y := mL_isMotion) (pc := 112) (y' := mX11_voters) (kc2 := 0) (ks2 := 0) dL_isMotion_112 ml_L_140 ok_X11_voters (show shp 276 = _ from rfl) ⟨_, _, rfl⟩ (by decide) rfl (by decide) (Nat.le_of_ble_eq_true rfl) rfl (p_voters (z := 293) (w := 276) (Or.inl rfl) (by decide) hS hC hR (q := q) (by omega) (fun v112 e112 b112 => ?_))
              refine go_top (b := nvt (su μ) (vw 20 μ) q) (e112) (fun t112 => ?_)
              refine go_icmp_ne (y := mL_isMotion) (pc := 115) (tgt := 135) dL_isMotion_115 (by decide) (by omega) (by omega) (fun h115 => ?_) (fun h115 => ?_)
              · skip
                exact absurd rfl h115
              · skip
                refine go_aload_n (y := mL_isMotion) (pc := 118) dL_isMotion_118 rfl rfl ?_
                refine go_iload_n (y := mL_isMotion) (pc := 119) dL_isMotion_119 rfl rfl ?_
                refine go_callV1 (y := mL_isMotion) (pc := 120) (y' := mX10_obstacle) (kc2 := 0) (ks2 := 0) dL_isMotion_120 ml_L_143 ok_X10_obstacle (show shp 0 = _ from rfl) ⟨_, _, rfl⟩ (by decide) rfl (by decide) (Nat.le_of_ble_eq_true rfl) rfl (q_obstacle hS hC (k := q) (by omega) ?_)
                refine go_top (b := obs (su μ) (vw 20 μ) q) (obo_n hq) (fun t120 => ?_)
                refine go_aload_n (y := mL_isMotion) (pc := 123) dL_isMotion_123 rfl rfl ?_
                refine go_iload_n (y := mL_isMotion) (pc := 124) dL_isMotion_124 rfl rfl ?_
                refine go_callV1 (y := mL_isMotion) (pc := 125) (y' := mX11_obstacle) (kc2 := 0) (ks2 := 0) dL_isMotion_125 ml_L_146 ok_X11_obstacle (show shp 276 = _ from rfl) ⟨_, _, rfl⟩ (by decide) rfl (by decide) (Nat.le_of_ble_eq_true rfl) rfl (p_obstacle (z := 293) (w := 276) (Or.inl rfl) (by decide) hS hC hR (q := q) (by omega) (fun v125 e125 b125 => ?_))
                refine go_top (b := obs (su μ) (vw 20 μ) q) (e125) (fun t125 => ?_)
                refine go_icmp_ne (y := mL_isMotion) (pc := 128) (tgt := 135) dL_isMotion_128 (by decide) (by omega) (by omega) (fun h128 => ?_) (fun h128 => ?_)
                · skip
                  exact absurd rfl h128
                · skip
                  refine go_iconst (y := mL_isMotion) (pc := 131) dL_isMotion_131 ?_
                  refine go_goto (y := mL_isMotion) (pc := 132) (tgt := 136) dL_isMotion_132 (by decide) ?_
                  refine go_istore (y := mL_isMotion) (pc := 136) dL_isMotion_136 (by decide) ?_
                  refine go_iload (y := mL_isMotion) (pc := 138) dL_isMotion_138 rfl ?_
                  refine go_if_eq (y := mL_isMotion) (pc := 140) (tgt := 205) dL_isMotion_140 (by decide) (by omega) (fun h140 => ?_) (fun h140 => ?_)
                  · skip
                    exact absurd h140 (by decide)
                  · skip
                    refine go_aload_n (y := mL_isMotion) (pc := 143) dL_isMotion_143 rfl rfl ?_
                    refine go_iload_n (y := mL_isMotion) (pc := 144) dL_isMotion_144 rfl rfl ?_
                    refine go_callV1 (y := mL_isMotion) (pc := 145) (y' := mX10_wouldPass) (kc2 := 0) (ks2 := 0) dL_isMotion_145 ml_L_147 ok_X10_wouldPass (show shp 0 = _ from rfl) ⟨_, _, rfl⟩ (by decide) rfl (by decide) (Nat.le_of_ble_eq_true rfl) rfl (q_wouldPass hS hC (k := q) (by omega) ?_)
                    refine go_aload_n (y := mL_isMotion) (pc := 148) dL_isMotion_148 rfl rfl ?_
                    refine go_iload_n (y := mL_isMotion) (pc := 149) dL_isMotion_149 rfl rfl ?_
                    refine go_iconst (y := mL_isMotion) (pc := 150) dL_isMotion_150 ?_
                    refine go_callV2 (y := mL_isMotion) (pc := 151) (y' := mX11_side) (kc2 := 0) (ks2 := 0) dL_isMotion_151 ml_L_131 ok_X11_side (show shp 276 = _ from rfl) ⟨_, _, rfl⟩ (by decide) ⟨rfl, rfl⟩ (by decide) (Nat.le_of_ble_eq_true rfl) rfl (p_side (z := 293) (w := 276) (Or.inl rfl) (by decide) hS hC hR (q := q) (by omega) (by omega) (fun v151 e151 b151 => ?_))
                    refine go_aload_n (y := mL_isMotion) (pc := 154) dL_isMotion_154 rfl rfl ?_
                    refine go_iload_n (y := mL_isMotion) (pc := 155) dL_isMotion_155 rfl rfl ?_
                    refine go_iconst (y := mL_isMotion) (pc := 156) dL_isMotion_156 ?_
                    refine go_callV2 (y := mL_isMotion) (pc := 157) (y' := mX11_side) (kc2 := 0) (ks2 := 0) dL_isMotion_157 ml_L_131 ok_X11_side (show shp 276 = _ from rfl) ⟨_, _, rfl⟩ (by decide) ⟨rfl, rfl⟩ (by decide) (Nat.le_of_ble_eq_true rfl) rfl (p_side (z := 293) (w := 276) (Or.inl rfl) (by decide) hS hC hR (q := q) (by omega) (by omega) (fun v157 e157 b157 => ?_))
                    refine go_icmp_le (y := mL_isMotion) (pc := 160) (tgt := 167) dL_isMotion_160 (by decide) (by omega) (by omega) (fun h160 => ?_) (fun h160 => ?_)
                    · skip
                      refine go_iconst (y := mL_isMotion) (pc := 167) dL_isMotion_167 ?_
                      exact J168 0 _ (bI_f (by unfold mgn; omega)).symm
                    · skip
                      refine go_iconst (y := mL_isMotion) (pc := 163) dL_isMotion_163 ?_
                      refine go_goto (y := mL_isMotion) (pc := 164) (tgt := 168) dL_isMotion_164 (by decide) ?_
                      exact J168 1 _ (bI_t (by unfold mgn; omega)).symm
  have loop1 : ∀ (n k : Nat), (k : Int) + n = su μ 0 7 → go 293 8 0 0 mL_isMotion Q X 5 [.ref 0, .ref 276, .int (iI (q : Nat)), .int (iI (smf (fun m => ln (vw 20 μ) m q) k)), .int (iI (k : Nat))] [] μ := by
    intro n
    induction n using Nat.strongRecOn with
    | _ n ih =>
      intro k hk
      have ih' := ih (n - 1)
      by_cases hkn : (k : Int) = su μ 0 7
      · have e : k = (su μ 0 7).toNat := by omega
        subst e
        refine go_iload (y := mL_isMotion) (pc := 5) dL_isMotion_5 rfl ?_
        refine go_aload_n (y := mL_isMotion) (pc := 7) dL_isMotion_7 rfl rfl ?_
        refine go_getI (y := mL_isMotion) (pc := 8) dL_isMotion_8 fl_L_50 rfl rfl (by decide) (fun r8 => ?_)
        refine go_top (b := su μ 0 7) (e8) (fun t8 => ?_)
        refine go_icmp_ge (y := mL_isMotion) (pc := 11) (tgt := 35) dL_isMotion_11 (by decide) (by omega) (by omega) (fun h11 => ?_) (fun h11 => ?_)
        · skip
          exact go_fgt 4 tail
        · skip
          exact absurd h11 (by omega)
      · have c1 : μ 286 (16 * k + q) = ln (vw 20 μ) k q := hQ.2.2.2.2 k (by omega)
        refine go_iload (y := mL_isMotion) (pc := 5) dL_isMotion_5 rfl ?_
        refine go_aload_n (y := mL_isMotion) (pc := 7) dL_isMotion_7 rfl rfl ?_
        refine go_getI (y := mL_isMotion) (pc := 8) dL_isMotion_8 fl_L_50 rfl rfl (by decide) (fun r8 => ?_)
        refine go_top (b := su μ 0 7) (e8) (fun t8 => ?_)
        refine go_icmp_ge (y := mL_isMotion) (pc := 11) (tgt := 35) dL_isMotion_11 (by decide) (by omega) (by omega) (fun h11 => ?_) (fun h11 => ?_)
        · skip
          exact absurd h11 (by omega)
        · skip
          refine go_iload_n (y := mL_isMotion) (pc := 14) dL_isMotion_14 rfl rfl ?_
          refine go_aload_n (y := mL_isMotion) (pc := 15) dL_isMotion_15 rfl rfl ?_
          refine go_getR (y := mL_isMotion) (pc := 16) dL_isMotion_16 fl_L_67 rfl rfl (by decide) ?_
          refine go_bipush (y := mL_isMotion) (pc := 19) dL_isMotion_19 (by decide) ?_
          refine go_iload (y := mL_isMotion) (pc := 21) dL_isMotion_21 rfl ?_
          refine go_imul (y := mL_isMotion) (pc := 23) dL_isMotion_23 ?_
          refine go_iload_n (y := mL_isMotion) (pc := 24) dL_isMotion_24 rfl rfl ?_
          refine go_iadd (y := mL_isMotion) (pc := 25) dL_isMotion_25 ?_
          refine go_iaload (y := mL_isMotion) (pc := 26) (k := ((16 * k) + q)) dL_isMotion_26 rfl (by decide) (by omega) (by omega) (by decide) (fun r26 => ?_)
          refine go_top (b := ln (vw 20 μ) k q) (c1) (fun t26 => ?_)
          refine go_iadd (y := mL_isMotion) (pc := 27) dL_isMotion_27 ?_
          refine go_istore_n (y := mL_isMotion) (pc := 28) dL_isMotion_28 rfl (by decide) ?_
          refine go_iinc (y := mL_isMotion) (pc := 29) dL_isMotion_29 rfl (by decide) ?_
          refine go_goto (y := mL_isMotion) (pc := 32) (tgt := 5) dL_isMotion_32 (by decide) ?_
          exact ih' (by omega) (k + 1) (by omega)
  refine go_iconst (y := mL_isMotion) (pc := 0) dL_isMotion_0 ?_
  refine go_istore_n (y := mL_isMotion) (pc := 1) dL_isMotion_1 rfl (by decide) ?_
  refine go_iconst (y := mL_isMotion) (pc := 2) dL_isMotion_2 ?_
  refine go_istore (y := mL_isMotion) (pc := 3) dL_isMotion_3 (by decide) ?_
  exact loop1 (su μ 0 7).toNat 0 (by omega)
