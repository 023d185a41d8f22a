/-! THE MODEL WRITES ALL CHAIRS, ALL REQUESTS -/
section MAll
variable {S s σ μ : Mem} {ν : Nat → Int}
set_option maxRecDepth 8000 in
set_option maxHeartbeats 4000000 in
theorem m_writeChairs (hr : rel S s ν) (hS : wfS S) (hC : wfC S s) (hN : ∀ m : Nat, (m : Int) < S 0 7 → isn 6 (S 1 m)) (hP : ∀ m : Nat, (m : Int) < S 0 7 → 0 < S 1 m) {Q : Option Value → Mem → Prop} {X : String → Mem → Prop} (K : ∀ σ', OM (wChs S s (S 0 0).toNat) σ' → smW σ' (wr σ 0 7 0) → Q (some (.int (iI ((wChs S s (S 0 0).toNat).length : Nat)))) (md σ' ν μ)) : mt 289 4 0 0 mX11_writeChairs [.ref 276] Q X (md σ ν μ) := by
  show go 289 4 0 0 mX11_writeChairs Q X 0 [.ref 276, .null] [] _
  obtain ⟨n1, n12, c1, c4⟩ := wf_n hS
  obtain ⟨q0, q16, r0, r12⟩ := wf_r hS hC
  obtain ⟨n, en⟩ : ∃ n, n = (S 0 0).toNat := ⟨_, rfl⟩
  rw [← en] at K
  have loop : ∀ (t k : Nat) (σ1 : Mem), k + t = n → OM (wChs S s k) σ1 → smW σ1 (wr σ 0 7 0) → go 289 4 0 0 mX11_writeChairs Q X 12 [.ref 276, .int (iI (k : Nat))] [] (md σ1 ν μ) := by
    intro t
    induction t with
    | zero =>
      intro k σ1 hk h1 h2
      rw [show k = n by omega] at h1
      refine go_iload_n (y := mX11_writeChairs) (pc := 12) dX11_writeChairs_12 rfl rfl ?_
      refine go_aload_n (y := mX11_writeChairs) (pc := 13) dX11_writeChairs_13 rfl rfl ?_
      refine go_mref (y := mX11_writeChairs) (pc := 14) dX11_writeChairs_14 fl_X11_7 rfl rfl (by decide) ?_
      refine go_iconst (y := mX11_writeChairs) (pc := 17) dX11_writeChairs_17 ?_
      refine go_nial (y := mX11_writeChairs) (pc := 18) (k := 0) dX11_writeChairs_18 (by decide) rfl (by omega) (fun r18 => ?_)
      refine go_top (b := S 0 0) (rs0 hr) (fun t18 => ?_)
      refine go_icmp_ge (y := mX11_writeChairs) (pc := 19) (tgt := 130) dX11_writeChairs_19 (by decide) (by omega) (by omega) (fun h19 => ?_) (fun h19 => ?_)
      · skip
        refine go_aload_n (y := mX11_writeChairs) (pc := 130) dX11_writeChairs_130 rfl rfl ?_
        refine go_mget (y := mX11_writeChairs) (pc := 131) dX11_writeChairs_131 fl_X11_400 rfl rfl (by decide) (fun r131 => ?_)
        refine go_top (b := (((wChs S s n).length : Nat) : Int)) (h1.1) (fun t131 => ?_)
        refine go_ireturn (y := mX11_writeChairs) (pc := 134) dX11_writeChairs_134 rfl ?_
        exact K σ1 h1 h2
      · skip
        exact absurd h19 (by omega)
    | succ t ih =>
      intro k σ1 hk h1 h2
      have hk4 : k < 4 := by omega
      have hh : (k : Int) < S 0 0 := by omega
      have hL := wChs_le S s k
      have eW : wChs S s (k + 1) = wChs S s k ++ (if 0 < k then [32] else []) ++ wCh S s k := by rw [wChs]
      have J32 : ∀ (σ2 : Mem), OM (wChs S s k ++ (if 0 < k then [32] else [])) σ2 → smW σ2 (wr σ 0 7 0) → go 289 4 0 0 mX11_writeChairs Q X 32 [.ref 276, .int (iI (k : Nat))] [] (md σ2 ν μ) := by
        intro σ2 g1 g2
        obtain ⟨A, eA⟩ : ∃ A, A = wChs S s k ++ (if 0 < k then [(32 : Int)] else []) := ⟨_, rfl⟩
        have lA : A.length ≤ 14 * k + 1 := by
          rw [eA, List.length_append]
          have : (if 0 < k then [(32 : Int)] else []).length ≤ 1 := by split <;> decide
          omega
        rw [← eA] at g1 eW
        by_cases g : s 16 k = -1
        · have e9 : wCh S s k = [46] := if_pos g
          rw [e9] at eW
          refine go_aload_n (y := mX11_writeChairs) (pc := 32) dX11_writeChairs_32 rfl rfl ?_
          refine go_iload_n (y := mX11_writeChairs) (pc := 33) dX11_writeChairs_33 rfl rfl ?_
          refine go_iconst (y := mX11_writeChairs) (pc := 34) dX11_writeChairs_34 ?_
          refine go_callV2 (y := mX11_writeChairs) (pc := 35) (y' := mX11_ofC) (kc2 := 0) (ks2 := 0) dX11_writeChairs_35 ml_X11_94 ok_X11_ofC (show shp 276 = _ from rfl) ⟨_, _, rfl⟩ (by decide) ⟨rfl, rfl⟩ (by decide) (Nat.le_of_ble_eq_true rfl) rfl (m_ofC (h := k) (w := 0) (by omega) (by decide) (fun v35 e35 r35 => ?_))
          refine go_top (b := -1) ((by rw [e35, rhB hr hh]; exact g)) (fun t35 => ?_)
          refine go_iconst (y := mX11_writeChairs) (pc := 38) dX11_writeChairs_38 ?_
          refine go_icmp_ne (y := mX11_writeChairs) (pc := 39) (tgt := 51) dX11_writeChairs_39 (by decide) (by omega) (by omega) (fun h39 => ?_) (fun h39 => ?_)
          · skip
            exact absurd rfl h39
          · skip
            refine go_aload_n (y := mX11_writeChairs) (pc := 42) dX11_writeChairs_42 rfl rfl ?_
            refine go_bipush (y := mX11_writeChairs) (pc := 43) dX11_writeChairs_43 (by decide) ?_
            refine go_callV1 (y := mX11_writeChairs) (pc := 45) (y' := mX11_writes) (kc2 := 0) (ks2 := 0) dX11_writeChairs_45 ml_X11_403 ok_X11_writes (show shp 276 = _ from rfl) ⟨_, _, rfl⟩ (by decide) rfl (by decide) (Nat.le_of_ble_eq_true rfl) rfl (m_writes (by decide) g1 (by omega) (fun σ45 o45 w45 => ?_))
            refine go_goto (y := mX11_writeChairs) (pc := 48) (tgt := 124) dX11_writeChairs_48 (by decide) ?_
            refine go_iinc (y := mX11_writeChairs) (pc := 124) dX11_writeChairs_124 rfl (by decide) ?_
            refine go_goto (y := mX11_writeChairs) (pc := 127) (tgt := 12) dX11_writeChairs_127 (by decide) ?_
            exact ih (k + 1) σ45 (by omega) (by rw [eW]; exact o45) (smW_t w45 g2)
        · have hch := hC.2.2.2.2.2 k hk4
          have hq : (k : Int) < S 0 0 ∧ 0 ≤ s 16 k ∧ s 16 k < S 0 7 ∧ 0 ≤ s 17 k ∧ s 17 k < s 5 0 ∧ (s 18 k = 1 ∨ s 18 k = -1) ∧ 1 ≤ s 19 k ∧ s 19 k ≤ 20 ∧ 0 ≤ s 20 k ∧ s 20 k ≤ 1 := hch.elim (fun w => absurd w.1 g) id
          obtain ⟨m, em⟩ := Int.eq_ofNat_of_zero_le hq.2.1
          obtain ⟨q, eq⟩ := Int.eq_ofNat_of_zero_le hq.2.2.2.1
          obtain ⟨v, ev⟩ := Int.eq_ofNat_of_zero_le (show 0 ≤ s 19 k by omega)
          have e9 : wCh S s k = wSp S m (s 18 k) q ++ (if s 20 k = 1 then [33] else []) ++ [58] ++ dgl v := by
            unfold wCh
            rw [if_neg g, em, eq, ev, Int.toNat_natCast, Int.toNat_natCast, Int.toNat_natCast]
          have eS : wSp S m (s 18 k) q = nml 6 (S 1 m) ++ [if s 18 k = 1 then 43 else 45] ++ dgl q := rfl
          have l6 := nml_len 6 (S 1 m)
          have ld := dgl_le q
          have J108 : ∀ (σ3 : Mem), OM (A ++ wSp S m (s 18 k) q ++ (if s 20 k = 1 then [33] else [])) σ3 → smW σ3 (wr σ 0 7 0) → go 289 4 0 0 mX11_writeChairs Q X 108 [.ref 276, .int (iI (k : Nat))] [] (md σ3 ν μ) := by
            intro σ3 f1 f2
            have lB : (A ++ wSp S m (s 18 k) q ++ (if s 20 k = 1 then [33] else [])).length ≤ 14 * k + 11 := by
              have h9 := wSp_le S m (s 18 k) q
              have : (if s 20 k = 1 then [(33 : Int)] else []).length ≤ 1 := by split <;> decide
              rw [List.length_append, List.length_append]
              omega
            refine go_aload_n (y := mX11_writeChairs) (pc := 108) dX11_writeChairs_108 rfl rfl ?_
            refine go_bipush (y := mX11_writeChairs) (pc := 109) dX11_writeChairs_109 (by decide) ?_
            refine go_callV1 (y := mX11_writeChairs) (pc := 111) (y' := mX11_writes) (kc2 := 0) (ks2 := 0) dX11_writeChairs_111 ml_X11_403 ok_X11_writes (show shp 276 = _ from rfl) ⟨_, _, rfl⟩ (by decide) rfl (by decide) (Nat.le_of_ble_eq_true rfl) rfl (m_writes (by decide) f1 (by omega) (fun σ111 o111 w111 => ?_))
            refine go_aload_n (y := mX11_writeChairs) (pc := 114) dX11_writeChairs_114 rfl rfl ?_
            refine go_aload_n (y := mX11_writeChairs) (pc := 115) dX11_writeChairs_115 rfl rfl ?_
            refine go_iload_n (y := mX11_writeChairs) (pc := 116) dX11_writeChairs_116 rfl rfl ?_
            refine go_iconst (y := mX11_writeChairs) (pc := 117) dX11_writeChairs_117 ?_
            refine go_callV2 (y := mX11_writeChairs) (pc := 118) (y' := mX11_ofC) (kc2 := 0) (ks2 := 0) dX11_writeChairs_118 ml_X11_94 ok_X11_ofC (show shp 276 = _ from rfl) ⟨_, _, rfl⟩ (by decide) ⟨rfl, rfl⟩ (by decide) (Nat.le_of_ble_eq_true rfl) rfl (m_ofC (h := k) (w := 3) (by omega) (by decide) (fun v118 e118 r118 => ?_))
            refine go_top (b := ((v : Nat) : Int)) ((by rw [e118, rhR hr hh g]; exact ev)) (fun t118 => ?_)
            refine go_callV1 (y := mX11_writeChairs) (pc := 121) (y' := mX11_writesNumber) (kc2 := 0) (ks2 := 0) dX11_writeChairs_121 ml_X11_409 ok_X11_writesNumber (show shp 276 = _ from rfl) ⟨_, _, rfl⟩ (by decide) rfl (by decide) (Nat.le_of_ble_eq_true rfl) rfl (m_writesNumber (by omega) o111 (by rw [List.length_append]; simp only [List.length_cons, List.length_nil]; omega) (fun σ121 o121 w121 => ?_))
            refine go_iinc (y := mX11_writeChairs) (pc := 124) dX11_writeChairs_124 rfl (by decide) ?_
            refine go_goto (y := mX11_writeChairs) (pc := 127) (tgt := 12) dX11_writeChairs_127 (by decide) ?_
            refine ih (k + 1) σ121 (by omega) ?_ (smW_t w121 (smW_t w111 f2))
            rw [eW, e9]
            simp only [List.append_assoc] at o121 ⊢
            exact o121
          have J79 : ∀ (c : Int) (σ3 : Mem), c = (if s 18 k = 1 then 43 else 45) → OM (A ++ nml 6 (S 1 m)) σ3 → smW σ3 (wr σ 0 7 0) → go 289 4 0 0 mX11_writeChairs Q X 79 [.ref 276, .int (iI (k : Nat))] [.int (iI c), .ref 276] (md σ3 ν μ) := by
            intro c σ3 hc f1 f2
            have hc2 : rng c := by rw [hc]; split <;> decide
            have lB : (A ++ nml 6 (S 1 m)).length ≤ 14 * k + 7 := by rw [List.length_append]; omega
            refine go_callV1 (y := mX11_writeChairs) (pc := 79) (y' := mX11_writes) (kc2 := 0) (ks2 := 0) dX11_writeChairs_79 ml_X11_403 ok_X11_writes (show shp 276 = _ from rfl) ⟨_, _, rfl⟩ (by decide) rfl (by decide) (Nat.le_of_ble_eq_true rfl) rfl (m_writes hc2 f1 (by omega) (fun σ79 o79 w79 => ?_))
            refine go_aload_n (y := mX11_writeChairs) (pc := 82) dX11_writeChairs_82 rfl rfl ?_
            refine go_aload_n (y := mX11_writeChairs) (pc := 83) dX11_writeChairs_83 rfl rfl ?_
            refine go_iload_n (y := mX11_writeChairs) (pc := 84) dX11_writeChairs_84 rfl rfl ?_
            refine go_iconst (y := mX11_writeChairs) (pc := 85) dX11_writeChairs_85 ?_
            refine go_callV2 (y := mX11_writeChairs) (pc := 86) (y' := mX11_ofC) (kc2 := 0) (ks2 := 0) dX11_writeChairs_86 ml_X11_94 ok_X11_ofC (show shp 276 = _ from rfl) ⟨_, _, rfl⟩ (by decide) ⟨rfl, rfl⟩ (by decide) (Nat.le_of_ble_eq_true rfl) rfl (m_ofC (h := k) (w := 1) (by omega) (by decide) (fun v86 e86 r86 => ?_))
            refine go_top (b := ((q : Nat) : Int)) ((by rw [e86, rhA hr hh g]; exact eq)) (fun t86 => ?_)
            refine go_callV1 (y := mX11_writeChairs) (pc := 89) (y' := mX11_writesNumber) (kc2 := 0) (ks2 := 0) dX11_writeChairs_89 ml_X11_409 ok_X11_writesNumber (show shp 276 = _ from rfl) ⟨_, _, rfl⟩ (by decide) rfl (by decide) (Nat.le_of_ble_eq_true rfl) rfl (m_writesNumber (by omega) o79 (by rw [List.length_append]; simp only [List.length_cons, List.length_nil]; omega) (fun σ89 o89 w89 => ?_))
            refine go_aload_n (y := mX11_writeChairs) (pc := 92) dX11_writeChairs_92 rfl rfl ?_
            refine go_iload_n (y := mX11_writeChairs) (pc := 93) dX11_writeChairs_93 rfl rfl ?_
            refine go_iconst (y := mX11_writeChairs) (pc := 94) dX11_writeChairs_94 ?_
            refine go_callV2 (y := mX11_writeChairs) (pc := 95) (y' := mX11_ofC) (kc2 := 0) (ks2 := 0) dX11_writeChairs_95 ml_X11_94 ok_X11_ofC (show shp 276 = _ from rfl) ⟨_, _, rfl⟩ (by decide) ⟨rfl, rfl⟩ (by decide) (Nat.le_of_ble_eq_true rfl) rfl (m_ofC (h := k) (w := 4) (by omega) (by decide) (fun v95 e95 r95 => ?_))
            refine go_top (b := s 20 k) ((by rw [e95]; exact rhM hr hh g)) (fun t95 => ?_)
            refine go_iconst (y := mX11_writeChairs) (pc := 98) dX11_writeChairs_98 ?_
            refine go_icmp_ne (y := mX11_writeChairs) (pc := 99) (tgt := 108) dX11_writeChairs_99 (by decide) (by omega) (by omega) (fun h99 => ?_) (fun h99 => ?_)
            · skip
              refine J108 σ89 ?_ (smW_t w89 (smW_t w79 f2))
              rw [if_neg h99, List.append_nil, eS, ← List.append_assoc, ← List.append_assoc, ← hc]
              exact o89
            · skip
              refine go_aload_n (y := mX11_writeChairs) (pc := 102) dX11_writeChairs_102 rfl rfl ?_
              refine go_bipush (y := mX11_writeChairs) (pc := 103) dX11_writeChairs_103 (by decide) ?_
              refine go_callV1 (y := mX11_writeChairs) (pc := 105) (y' := mX11_writes) (kc2 := 0) (ks2 := 0) dX11_writeChairs_105 ml_X11_403 ok_X11_writes (show shp 276 = _ from rfl) ⟨_, _, rfl⟩ (by decide) rfl (by decide) (Nat.le_of_ble_eq_true rfl) rfl (m_writes (by decide) o89 (by rw [List.length_append, List.length_append]; simp only [List.length_cons, List.length_nil]; omega) (fun σ105 o105 w105 => ?_))
              refine J108 σ105 ?_ (smW_t w105 (smW_t w89 (smW_t w79 f2)))
              rw [if_pos h99, eS, ← List.append_assoc, ← List.append_assoc, ← hc]
              exact o105
          have sb2 : sdm (s 18 k) = 0 ∨ sdm (s 18 k) = 1 := by unfold sdm; split <;> omega
          have sb3 : sdm (s 18 k) = 1 ↔ s 18 k = 1 := by
            unfold sdm
            split
            · exact ⟨fun _ => by assumption, fun _ => rfl⟩
            · exact ⟨fun w => absurd w (by decide), fun w => absurd w (by assumption)⟩
          refine go_aload_n (y := mX11_writeChairs) (pc := 32) dX11_writeChairs_32 rfl rfl ?_
          refine go_iload_n (y := mX11_writeChairs) (pc := 33) dX11_writeChairs_33 rfl rfl ?_
          refine go_iconst (y := mX11_writeChairs) (pc := 34) dX11_writeChairs_34 ?_
          refine go_callV2 (y := mX11_writeChairs) (pc := 35) (y' := mX11_ofC) (kc2 := 0) (ks2 := 0) dX11_writeChairs_35 ml_X11_94 ok_X11_ofC (show shp 276 = _ from rfl) ⟨_, _, rfl⟩ (by decide) ⟨rfl, rfl⟩ (by decide) (Nat.le_of_ble_eq_true rfl) rfl (m_ofC (h := k) (w := 0) (by omega) (by decide) (fun v35 e35 r35 => ?_))
          refine go_top (b := s 16 k) ((by rw [e35]; exact rhB hr hh)) (fun t35 => ?_)
          refine go_iconst (y := mX11_writeChairs) (pc := 38) dX11_writeChairs_38 ?_
          refine go_icmp_ne (y := mX11_writeChairs) (pc := 39) (tgt := 51) dX11_writeChairs_39 (by decide) (by omega) (by omega) (fun h39 => ?_) (fun h39 => ?_)
          · skip
            refine go_aload_n (y := mX11_writeChairs) (pc := 51) dX11_writeChairs_51 rfl rfl ?_
            refine go_aload_n (y := mX11_writeChairs) (pc := 52) dX11_writeChairs_52 rfl rfl ?_
            refine go_iload_n (y := mX11_writeChairs) (pc := 53) dX11_writeChairs_53 rfl rfl ?_
            refine go_iconst (y := mX11_writeChairs) (pc := 54) dX11_writeChairs_54 ?_
            refine go_callV2 (y := mX11_writeChairs) (pc := 55) (y' := mX11_ofC) (kc2 := 0) (ks2 := 0) dX11_writeChairs_55 ml_X11_94 ok_X11_ofC (show shp 276 = _ from rfl) ⟨_, _, rfl⟩ (by decide) ⟨rfl, rfl⟩ (by decide) (Nat.le_of_ble_eq_true rfl) rfl (m_ofC (h := k) (w := 0) (by omega) (by decide) (fun v55 e55 r55 => ?_))
            refine go_top (b := ((m : Nat) : Int)) ((by rw [e55, rhB hr hh]; exact em)) (fun t55 => ?_)
            refine go_callV1 (y := mX11_writeChairs) (pc := 58) (y' := mX11_writesName) (kc2 := 0) (ks2 := 0) dX11_writeChairs_58 ml_X11_406 ok_X11_writesName (show shp 276 = _ from rfl) ⟨_, _, rfl⟩ (by decide) rfl (by decide) (Nat.le_of_ble_eq_true rfl) rfl (m_writesName (m := m) (by omega) (by omega) hr (hN m (by omega)) (hP m (by omega)) g1 (by omega) (fun σ58 o58 w58 => ?_))
            refine go_aload_n (y := mX11_writeChairs) (pc := 61) dX11_writeChairs_61 rfl rfl ?_
            refine go_aload_n (y := mX11_writeChairs) (pc := 62) dX11_writeChairs_62 rfl rfl ?_
            refine go_iload_n (y := mX11_writeChairs) (pc := 63) dX11_writeChairs_63 rfl rfl ?_
            refine go_iconst (y := mX11_writeChairs) (pc := 64) dX11_writeChairs_64 ?_
            refine go_callV2 (y := mX11_writeChairs) (pc := 65) (y' := mX11_ofC) (kc2 := 0) (ks2 := 0) dX11_writeChairs_65 ml_X11_94 ok_X11_ofC (show shp 276 = _ from rfl) ⟨_, _, rfl⟩ (by decide) ⟨rfl, rfl⟩ (by decide) (Nat.le_of_ble_eq_true rfl) rfl (m_ofC (h := k) (w := 2) (by omega) (by decide) (fun v65 e65 r65 => ?_))
            refine go_top (b := sdm (s 18 k)) ((by rw [e65]; exact rhS hr hh g)) (fun t65 => ?_)
            refine go_iconst (y := mX11_writeChairs) (pc := 68) dX11_writeChairs_68 ?_
            refine go_icmp_ne (y := mX11_writeChairs) (pc := 69) (tgt := 77) dX11_writeChairs_69 (by decide) (by omega) (by omega) (fun h69 => ?_) (fun h69 => ?_)
            · skip
              refine go_bipush (y := mX11_writeChairs) (pc := 77) dX11_writeChairs_77 (by decide) ?_
              exact J79 45 σ58 (if_neg (fun w => h69 (sb3.mpr w))).symm o58 (smW_t w58 g2)
            · skip
              refine go_bipush (y := mX11_writeChairs) (pc := 72) dX11_writeChairs_72 (by decide) ?_
              refine go_goto (y := mX11_writeChairs) (pc := 74) (tgt := 79) dX11_writeChairs_74 (by decide) ?_
              exact J79 43 σ58 (if_pos (sb3.mp h69)).symm o58 (smW_t w58 g2)
          · skip
            exact absurd h39 g
      refine go_iload_n (y := mX11_writeChairs) (pc := 12) dX11_writeChairs_12 rfl rfl ?_
      refine go_aload_n (y := mX11_writeChairs) (pc := 13) dX11_writeChairs_13 rfl rfl ?_
      refine go_mref (y := mX11_writeChairs) (pc := 14) dX11_writeChairs_14 fl_X11_7 rfl rfl (by decide) ?_
      refine go_iconst (y := mX11_writeChairs) (pc := 17) dX11_writeChairs_17 ?_
      refine go_nial (y := mX11_writeChairs) (pc := 18) (k := 0) dX11_writeChairs_18 (by decide) rfl (by omega) (fun r18 => ?_)
      refine go_top (b := S 0 0) (rs0 hr) (fun t18 => ?_)
      refine go_icmp_ge (y := mX11_writeChairs) (pc := 19) (tgt := 130) dX11_writeChairs_19 (by decide) (by omega) (by omega) (fun h19 => ?_) (fun h19 => ?_)
      · skip
        exact absurd h19 (by omega)
      · skip
        refine go_iload_n (y := mX11_writeChairs) (pc := 22) dX11_writeChairs_22 rfl rfl ?_
        refine go_if_le (y := mX11_writeChairs) (pc := 23) (tgt := 32) dX11_writeChairs_23 (by decide) (by omega) (fun h23 => ?_) (fun h23 => ?_)
        · skip
          refine J32 σ1 ?_ h2
          rw [if_neg (show ¬ 0 < k by omega), List.append_nil]
          exact h1
        · skip
          refine go_aload_n (y := mX11_writeChairs) (pc := 26) dX11_writeChairs_26 rfl rfl ?_
          refine go_bipush (y := mX11_writeChairs) (pc := 27) dX11_writeChairs_27 (by decide) ?_
          refine go_callV1 (y := mX11_writeChairs) (pc := 29) (y' := mX11_writes) (kc2 := 0) (ks2 := 0) dX11_writeChairs_29 ml_X11_403 ok_X11_writes (show shp 276 = _ from rfl) ⟨_, _, rfl⟩ (by decide) rfl (by decide) (Nat.le_of_ble_eq_true rfl) rfl (m_writes (by decide) h1 (by omega) (fun σ29 o29 w29 => ?_))
          refine J32 σ29 ?_ (smW_t w29 h2)
          rw [if_pos (show 0 < k by omega)]
          exact o29
  refine go_aload_n (y := mX11_writeChairs) (pc := 0) dX11_writeChairs_0 rfl rfl ?_
  refine go_iconst (y := mX11_writeChairs) (pc := 1) dX11_writeChairs_1 ?_
  refine go_mput (y := mX11_writeChairs) (pc := 2) dX11_writeChairs_2 fp_X11_83 rfl rfl (by decide) (by omega) ?_
  refine go_aload_n (y := mX11_writeChairs) (pc := 5) dX11_writeChairs_5 rfl rfl ?_
  refine go_iconst (y := mX11_writeChairs) (pc := 6) dX11_writeChairs_6 ?_
  refine go_mput (y := mX11_writeChairs) (pc := 7) dX11_writeChairs_7 fp_X11_400 rfl rfl (by decide) (by omega) ?_
  refine go_iconst (y := mX11_writeChairs) (pc := 10) dX11_writeChairs_10 ?_
  refine go_istore_n (y := mX11_writeChairs) (pc := 11) dX11_writeChairs_11 rfl (by decide) ?_
  exact loop n 0 _ (Nat.zero_add n) ⟨wr_s _ _ _ _, fun j c hj => by cases hj⟩ (fun r j h1 h2 => wr_n (by omega))
set_option maxRecDepth 8000 in
set_option maxHeartbeats 4000000 in
theorem m_writeRequests (hr : rel S s ν) (hS : wfS S) (hC : wfC S s) (hN : ∀ m : Nat, (m : Int) < S 0 7 → isn 6 (S 1 m)) (hP : ∀ m : Nat, (m : Int) < S 0 7 → 0 < S 1 m) {Q : Option Value → Mem → Prop} {X : String → Mem → Prop} (K : ∀ σ', OM (wRqs S s (s 11 0).toNat) σ' → smW σ' (wr σ 0 7 0) → Q (some (.int (iI ((wRqs S s (s 11 0).toNat).length : Nat)))) (md σ' ν μ)) : mt 289 4 0 0 mX11_writeRequests [.ref 276] Q X (md σ ν μ) := by
  show go 289 4 0 0 mX11_writeRequests Q X 0 [.ref 276, .null] [] _
  obtain ⟨n1, n12, c1, c4⟩ := wf_n hS
  obtain ⟨q0, q16, r0, r12⟩ := wf_r hS hC
  obtain ⟨n, en⟩ : ∃ n, n = (s 11 0).toNat := ⟨_, rfl⟩
  rw [← en] at K
  have loop : ∀ (t k : Nat) (σ1 : Mem), k + t = n → OM (wRqs S s k) σ1 → smW σ1 (wr σ 0 7 0) → go 289 4 0 0 mX11_writeRequests Q X 12 [.ref 276, .int (iI (k : Nat))] [] (md σ1 ν μ) := by
    intro t
    induction t with
    | zero =>
      intro k σ1 hk h1 h2
      rw [show k = n by omega] at h1
      refine go_iload_n (y := mX11_writeRequests) (pc := 12) dX11_writeRequests_12 rfl rfl ?_
      refine go_aload_n (y := mX11_writeRequests) (pc := 13) dX11_writeRequests_13 rfl rfl ?_
      refine go_mref (y := mX11_writeRequests) (pc := 14) dX11_writeRequests_14 fl_X11_7 rfl rfl (by decide) ?_
      refine go_bipush (y := mX11_writeRequests) (pc := 17) dX11_writeRequests_17 (by decide) ?_
      refine go_nial (y := mX11_writeRequests) (pc := 19) (k := 11) dX11_writeRequests_19 (by decide) rfl (by omega) (fun r19 => ?_)
      refine go_top (b := s 11 0) (rs11 hr) (fun t19 => ?_)
      refine go_icmp_ge (y := mX11_writeRequests) (pc := 20) (tgt := 80) dX11_writeRequests_20 (by decide) (by omega) (by omega) (fun h20 => ?_) (fun h20 => ?_)
      · skip
        refine go_aload_n (y := mX11_writeRequests) (pc := 80) dX11_writeRequests_80 rfl rfl ?_
        refine go_mget (y := mX11_writeRequests) (pc := 81) dX11_writeRequests_81 fl_X11_400 rfl rfl (by decide) (fun r81 => ?_)
        refine go_top (b := (((wRqs S s n).length : Nat) : Int)) (h1.1) (fun t81 => ?_)
        refine go_ireturn (y := mX11_writeRequests) (pc := 84) dX11_writeRequests_84 rfl ?_
        exact K σ1 h1 h2
      · skip
        exact absurd h20 (by omega)
    | succ t ih =>
      intro k σ1 hk h1 h2
      have hk12 : k < 12 := by omega
      have hh : (k : Int) < s 11 0 := by omega
      have hL := wRqs_le S s k
      have hq := hC.2.2.2.1 k hh
      obtain ⟨m, em⟩ := Int.eq_ofNat_of_zero_le hq.1
      obtain ⟨q, eq⟩ := Int.eq_ofNat_of_zero_le hq.2.2.1
      have eS : wSp S m (s 14 k) q = nml 6 (S 1 m) ++ [if s 14 k = 1 then 43 else 45] ++ dgl q := rfl
      have eW : wRqs S s (k + 1) = wRqs S s k ++ (if 0 < k then [44] else []) ++ wSp S m (s 14 k) q := by rw [wRqs, em, eq, Int.toNat_natCast, Int.toNat_natCast]
      have l6 := nml_len 6 (S 1 m)
      have sb2 : sdm (s 14 k) = 0 ∨ sdm (s 14 k) = 1 := by unfold sdm; split <;> omega
      have sb3 : sdm (s 14 k) = 1 ↔ s 14 k = 1 := by
        unfold sdm
        split
        · exact ⟨fun _ => by assumption, fun _ => rfl⟩
        · exact ⟨fun w => absurd w (by decide), fun w => absurd w (by assumption)⟩
      have J33 : ∀ (σ2 : Mem), OM (wRqs S s k ++ (if 0 < k then [44] else [])) σ2 → smW σ2 (wr σ 0 7 0) → go 289 4 0 0 mX11_writeRequests Q X 33 [.ref 276, .int (iI (k : Nat))] [] (md σ2 ν μ) := by
        intro σ2 g1 g2
        obtain ⟨A, eA⟩ : ∃ A, A = wRqs S s k ++ (if 0 < k then [(44 : Int)] else []) := ⟨_, rfl⟩
        have lA : A.length ≤ 10 * k + 1 := by
          rw [eA, List.length_append]
          have : (if 0 < k then [(44 : Int)] else []).length ≤ 1 := by split <;> decide
          omega
        rw [← eA] at g1 eW
        have J61 : ∀ (c : Int) (σ3 : Mem), c = (if s 14 k = 1 then 43 else 45) → OM (A ++ nml 6 (S 1 m)) σ3 → smW σ3 (wr σ 0 7 0) → go 289 4 0 0 mX11_writeRequests Q X 61 [.ref 276, .int (iI (k : Nat))] [.int (iI c), .ref 276] (md σ3 ν μ) := by
          intro c σ3 hc f1 f2
          have hc2 : rng c := by rw [hc]; split <;> decide
          have lB : (A ++ nml 6 (S 1 m)).length ≤ 10 * k + 7 := by rw [List.length_append]; omega
          refine go_callV1 (y := mX11_writeRequests) (pc := 61) (y' := mX11_writes) (kc2 := 0) (ks2 := 0) dX11_writeRequests_61 ml_X11_403 ok_X11_writes (show shp 276 = _ from rfl) ⟨_, _, rfl⟩ (by decide) rfl (by decide) (Nat.le_of_ble_eq_true rfl) rfl (m_writes hc2 f1 (by omega) (fun σ61 o61 w61 => ?_))
          refine go_aload_n (y := mX11_writeRequests) (pc := 64) dX11_writeRequests_64 rfl rfl ?_
          refine go_aload_n (y := mX11_writeRequests) (pc := 65) dX11_writeRequests_65 rfl rfl ?_
          refine go_iload_n (y := mX11_writeRequests) (pc := 66) dX11_writeRequests_66 rfl rfl ?_
          refine go_iconst (y := mX11_writeRequests) (pc := 67) dX11_writeRequests_67 ?_
          refine go_callV2 (y := mX11_writeRequests) (pc := 68) (y' := mX11_ofR) (kc2 := 0) (ks2 := 0) dX11_writeRequests_68 ml_X11_97 ok_X11_ofR (show shp 276 = _ from rfl) ⟨_, _, rfl⟩ (by decide) ⟨rfl, rfl⟩ (by decide) (Nat.le_of_ble_eq_true rfl) rfl (m_ofR (r := k) (w := 1) (by omega) (by decide) (fun v68 e68 r68 => ?_))
          refine go_top (b := ((q : Nat) : Int)) ((by rw [e68, rrA hr hh]; exact eq)) (fun t68 => ?_)
          refine go_callV1 (y := mX11_writeRequests) (pc := 71) (y' := mX11_writesNumber) (kc2 := 0) (ks2 := 0) dX11_writeRequests_71 ml_X11_409 ok_X11_writesNumber (show shp 276 = _ from rfl) ⟨_, _, rfl⟩ (by decide) rfl (by decide) (Nat.le_of_ble_eq_true rfl) rfl (m_writesNumber (by omega) o61 (by rw [List.length_append]; simp only [List.length_cons, List.length_nil]; omega) (fun σ71 o71 w71 => ?_))
          refine go_iinc (y := mX11_writeRequests) (pc := 74) dX11_writeRequests_74 rfl (by decide) ?_
          refine go_goto (y := mX11_writeRequests) (pc := 77) (tgt := 12) dX11_writeRequests_77 (by decide) ?_
          refine ih (k + 1) σ71 (by omega) ?_ (smW_t w71 (smW_t w61 f2))
          rw [eW, eS, ← hc]
          simp only [List.append_assoc] at o71 ⊢
          exact o71
        refine go_aload_n (y := mX11_writeRequests) (pc := 33) dX11_writeRequests_33 rfl rfl ?_
        refine go_aload_n (y := mX11_writeRequests) (pc := 34) dX11_writeRequests_34 rfl rfl ?_
        refine go_iload_n (y := mX11_writeRequests) (pc := 35) dX11_writeRequests_35 rfl rfl ?_
        refine go_iconst (y := mX11_writeRequests) (pc := 36) dX11_writeRequests_36 ?_
        refine go_callV2 (y := mX11_writeRequests) (pc := 37) (y' := mX11_ofR) (kc2 := 0) (ks2 := 0) dX11_writeRequests_37 ml_X11_97 ok_X11_ofR (show shp 276 = _ from rfl) ⟨_, _, rfl⟩ (by decide) ⟨rfl, rfl⟩ (by decide) (Nat.le_of_ble_eq_true rfl) rfl (m_ofR (r := k) (w := 0) (by omega) (by decide) (fun v37 e37 r37 => ?_))
        refine go_top (b := ((m : Nat) : Int)) ((by rw [e37, rrB hr hh]; exact em)) (fun t37 => ?_)
        refine go_callV1 (y := mX11_writeRequests) (pc := 40) (y' := mX11_writesName) (kc2 := 0) (ks2 := 0) dX11_writeRequests_40 ml_X11_406 ok_X11_writesName (show shp 276 = _ from rfl) ⟨_, _, rfl⟩ (by decide) rfl (by decide) (Nat.le_of_ble_eq_true rfl) rfl (m_writesName (m := m) (by omega) (by omega) hr (hN m (by omega)) (hP m (by omega)) g1 (by omega) (fun σ40 o40 w40 => ?_))
        refine go_aload_n (y := mX11_writeRequests) (pc := 43) dX11_writeRequests_43 rfl rfl ?_
        refine go_aload_n (y := mX11_writeRequests) (pc := 44) dX11_writeRequests_44 rfl rfl ?_
        refine go_iload_n (y := mX11_writeRequests) (pc := 45) dX11_writeRequests_45 rfl rfl ?_
        refine go_iconst (y := mX11_writeRequests) (pc := 46) dX11_writeRequests_46 ?_
        refine go_callV2 (y := mX11_writeRequests) (pc := 47) (y' := mX11_ofR) (kc2 := 0) (ks2 := 0) dX11_writeRequests_47 ml_X11_97 ok_X11_ofR (show shp 276 = _ from rfl) ⟨_, _, rfl⟩ (by decide) ⟨rfl, rfl⟩ (by decide) (Nat.le_of_ble_eq_true rfl) rfl (m_ofR (r := k) (w := 2) (by omega) (by decide) (fun v47 e47 r47 => ?_))
        refine go_top (b := sdm (s 14 k)) ((by rw [e47]; exact rrS hr hh)) (fun t47 => ?_)
        refine go_iconst (y := mX11_writeRequests) (pc := 50) dX11_writeRequests_50 ?_
        refine go_icmp_ne (y := mX11_writeRequests) (pc := 51) (tgt := 59) dX11_writeRequests_51 (by decide) (by omega) (by omega) (fun h51 => ?_) (fun h51 => ?_)
        · skip
          refine go_bipush (y := mX11_writeRequests) (pc := 59) dX11_writeRequests_59 (by decide) ?_
          exact J61 45 σ40 (if_neg (fun w => h51 (sb3.mpr w))).symm o40 (smW_t w40 g2)
        · skip
          refine go_bipush (y := mX11_writeRequests) (pc := 54) dX11_writeRequests_54 (by decide) ?_
          refine go_goto (y := mX11_writeRequests) (pc := 56) (tgt := 61) dX11_writeRequests_56 (by decide) ?_
          exact J61 43 σ40 (if_pos (sb3.mp h51)).symm o40 (smW_t w40 g2)
      refine go_iload_n (y := mX11_writeRequests) (pc := 12) dX11_writeRequests_12 rfl rfl ?_
      refine go_aload_n (y := mX11_writeRequests) (pc := 13) dX11_writeRequests_13 rfl rfl ?_
      refine go_mref (y := mX11_writeRequests) (pc := 14) dX11_writeRequests_14 fl_X11_7 rfl rfl (by decide) ?_
      refine go_bipush (y := mX11_writeRequests) (pc := 17) dX11_writeRequests_17 (by decide) ?_
      refine go_nial (y := mX11_writeRequests) (pc := 19) (k := 11) dX11_writeRequests_19 (by decide) rfl (by omega) (fun r19 => ?_)
      refine go_top (b := s 11 0) (rs11 hr) (fun t19 => ?_)
      refine go_icmp_ge (y := mX11_writeRequests) (pc := 20) (tgt := 80) dX11_writeRequests_20 (by decide) (by omega) (by omega) (fun h20 => ?_) (fun h20 => ?_)
      · skip
        exact absurd h20 (by omega)
      · skip
        refine go_iload_n (y := mX11_writeRequests) (pc := 23) dX11_writeRequests_23 rfl rfl ?_
        refine go_if_le (y := mX11_writeRequests) (pc := 24) (tgt := 33) dX11_writeRequests_24 (by decide) (by omega) (fun h24 => ?_) (fun h24 => ?_)
        · skip
          refine J33 σ1 ?_ h2
          rw [if_neg (show ¬ 0 < k by omega), List.append_nil]
          exact h1
        · skip
          refine go_aload_n (y := mX11_writeRequests) (pc := 27) dX11_writeRequests_27 rfl rfl ?_
          refine go_bipush (y := mX11_writeRequests) (pc := 28) dX11_writeRequests_28 (by decide) ?_
          refine go_callV1 (y := mX11_writeRequests) (pc := 30) (y' := mX11_writes) (kc2 := 0) (ks2 := 0) dX11_writeRequests_30 ml_X11_403 ok_X11_writes (show shp 276 = _ from rfl) ⟨_, _, rfl⟩ (by decide) rfl (by decide) (Nat.le_of_ble_eq_true rfl) rfl (m_writes (by decide) h1 (by omega) (fun σ30 o30 w30 => ?_))
          refine J33 σ30 ?_ (smW_t w30 h2)
          rw [if_pos (show 0 < k by omega)]
          exact o30
  refine go_aload_n (y := mX11_writeRequests) (pc := 0) dX11_writeRequests_0 rfl rfl ?_
  refine go_iconst (y := mX11_writeRequests) (pc := 1) dX11_writeRequests_1 ?_
  refine go_mput (y := mX11_writeRequests) (pc := 2) dX11_writeRequests_2 fp_X11_83 rfl rfl (by decide) (by omega) ?_
  refine go_aload_n (y := mX11_writeRequests) (pc := 5) dX11_writeRequests_5 rfl rfl ?_
  refine go_iconst (y := mX11_writeRequests) (pc := 6) dX11_writeRequests_6 ?_
  refine go_mput (y := mX11_writeRequests) (pc := 7) dX11_writeRequests_7 fp_X11_400 rfl rfl (by decide) (by omega) ?_
  refine go_iconst (y := mX11_writeRequests) (pc := 10) dX11_writeRequests_10 ?_
  refine go_istore_n (y := mX11_writeRequests) (pc := 11) dX11_writeRequests_11 rfl (by decide) ?_
  exact loop n 0 _ (Nat.zero_add n) ⟨wr_s _ _ _ _, fun j c hj => by cases hj⟩ (fun r j h1 h2 => wr_n (by omega))
end MAll
