/-! THE MODEL: forecasts, decisive voters, contradictions -/
section MFor
variable {S s σ μ : Mem} {ν : Nat → Int}
theorem bk_lo {τ : Mem} {ν ν1 : Nat → Int} : ∀ j, j < 418 → cpn ν1 (cpw τ 2 0 ν 418) 2 0 418 j = ν j := fun j h => (cpn_e h).trans (cpw_e h)
set_option maxRecDepth 8000 in
set_option maxHeartbeats 4000000 in
theorem m_latherAfter {q m : Int} (hq : rng q) (hm : rng m) (hr : rel S s ν) (hS : wfS S) (hC : wfC S s) {Q : Option Value → Mem → Prop} {X : String → Mem → Prop} (K : ∀ k n : Nat, q = k → m = n → (k : Int) < s 5 0 → n ≤ 300 → ∀ ν', (∀ j, j < 418 → ν' j = ν j) → Q (some (.int (iI ((pms S s n).1 8 k)))) (md (cpw (wr σ 0 7 0) 2 0 ν 418) ν' μ)) (K2 : ¬ (0 ≤ q ∧ q < s 5 0) → Q (some (.int (iI 0))) (md (wr (wr σ 0 7 0) 0 7 1) ν μ)) (K3 : 0 ≤ q ∧ q < s 5 0 → ¬ (0 ≤ m ∧ m ≤ 300) → Q (some (.int (iI 0))) (md (wr (wr σ 0 7 0) 0 7 2) ν μ)) : mt 289 7 0 0 mX11_latherAfter [.ref 276, .int (iI q), .int (iI m)] Q X (md σ ν μ) := by
  show go 289 7 0 0 mX11_latherAfter Q X 0 [.ref 276, .int (iI q), .int (iI m), .null] [] _
  have h16 := hC.1.2.1
  have h7 := z7 σ
  by_cases g : 0 ≤ q ∧ q < s 5 0
  · obtain ⟨k, rfl⟩ := Int.eq_ofNat_of_zero_le g.1
    have gk := g.2
    by_cases g' : 0 ≤ m ∧ m ≤ 300
    · obtain ⟨n, rfl⟩ := Int.eq_ofNat_of_zero_le g'.1
      have gn := g'.2
      have loop : ∀ (j p : Nat) (ν1 : Nat → Int), p + j = n → rel S (pms S s p).1 ν1 → go 289 7 0 0 mX11_latherAfter Q X 32 [.ref 276, .int (iI (k : Nat)), .int (iI (n : Nat)), .int (iI (p : Nat))] [] (md (cpw (wr σ 0 7 0) 2 0 ν 418) ν1 μ) := by
        intro j
        induction j using Nat.strongRecOn with
        | _ j ih =>
          intro p ν1 hp hr1
          have ih' := ih (j - 1)
          have hw := wf_pms hS hC p
          refine go_iload_n (y := mX11_latherAfter) (pc := 32) dX11_latherAfter_32 rfl rfl ?_
          refine go_iload_n (y := mX11_latherAfter) (pc := 33) dX11_latherAfter_33 rfl rfl ?_
          refine go_icmp_ge (y := mX11_latherAfter) (pc := 34) (tgt := 47) dX11_latherAfter_34 (by decide) (by omega) (by omega) (fun h34 => ?_) (fun h34 => ?_)
          · skip
            refine go_aload_n (y := mX11_latherAfter) (pc := 47) dX11_latherAfter_47 rfl rfl ?_
            refine go_aload_n (y := mX11_latherAfter) (pc := 48) dX11_latherAfter_48 rfl rfl ?_
            refine go_iload_n (y := mX11_latherAfter) (pc := 49) dX11_latherAfter_49 rfl rfl ?_
            refine go_iconst (y := mX11_latherAfter) (pc := 50) dX11_latherAfter_50 ?_
            refine go_callV2 (y := mX11_latherAfter) (pc := 51) (y' := mX11_ofM) (kc2 := 0) (ks2 := 0) dX11_latherAfter_51 ml_X11_90 ok_X11_ofM (show shp 276 = _ from rfl) ⟨_, _, rfl⟩ (by decide) ⟨rfl, rfl⟩ (by decide) (Nat.le_of_ble_eq_true rfl) rfl (m_ofM (q := k) (w := 2) (by omega) (by decide) (fun v51 e51 r51 => ?_))
            refine go_callV1 (y := mX11_latherAfter) (pc := 54) (y' := mX11_back) (kc2 := 0) (ks2 := 0) dX11_latherAfter_54 ml_X11_384 ok_X11_back (show shp 276 = _ from rfl) ⟨_, _, rfl⟩ (by decide) rfl (by decide) (Nat.le_of_ble_eq_true rfl) rfl (m_back ?_)
            refine go_ireturn (y := mX11_latherAfter) (pc := 57) dX11_latherAfter_57 rfl ?_
            have e : p = n := by omega
            subst e
            rw [e51.trans (rqL hr1 (by rw [pms_5]; exact gk))]
            exact K k p rfl rfl gk (by omega) _ bk_lo
          · skip
            refine go_aload_n (y := mX11_latherAfter) (pc := 37) dX11_latherAfter_37 rfl rfl ?_
            refine go_callV0 (y := mX11_latherAfter) (pc := 38) (y' := mX11_minutePasses) (kc2 := 0) (ks2 := 0) dX11_latherAfter_38 ml_X11_381 ok_X11_minutePasses (show shp 276 = _ from rfl) ⟨_, _, rfl⟩ (by decide) trivial (by decide) (Nat.le_of_ble_eq_true rfl) rfl (m_minutePasses hS hw.1 hr1 (fun ν38 e38 f38 => ?_))
            refine go_iinc (y := mX11_latherAfter) (pc := 41) dX11_latherAfter_41 rfl (by decide) ?_
            refine go_goto (y := mX11_latherAfter) (pc := 44) (tgt := 32) dX11_latherAfter_44 (by decide) ?_
            exact ih' (by omega) (p + 1) ν38 (by omega) e38
      refine go_aload_n (y := mX11_latherAfter) (pc := 0) dX11_latherAfter_0 rfl rfl ?_
      refine go_iload_n (y := mX11_latherAfter) (pc := 1) dX11_latherAfter_1 rfl rfl ?_
      refine go_callV1 (y := mX11_latherAfter) (pc := 2) (y' := mX11_finds) (kc2 := 0) (ks2 := 0) dX11_latherAfter_2 ml_X11_354 ok_X11_finds (show shp 276 = _ from rfl) ⟨_, _, rfl⟩ (by decide) rfl (by decide) (Nat.le_of_ble_eq_true rfl) rfl (m_finds (by omega) hr hS hC (fun _ => ?_) (fun h9 => absurd g h9))
      refine go_if_eq (y := mX11_latherAfter) (pc := 5) (tgt := 24) dX11_latherAfter_5 (by decide) (by omega) (fun h5 => ?_) (fun h5 => ?_)
      · skip
        exact absurd h5 (by decide)
      · skip
        refine go_aload_n (y := mX11_latherAfter) (pc := 8) dX11_latherAfter_8 rfl rfl ?_
        refine go_iload_n (y := mX11_latherAfter) (pc := 9) dX11_latherAfter_9 rfl rfl ?_
        refine go_iconst (y := mX11_latherAfter) (pc := 10) dX11_latherAfter_10 ?_
        refine go_sipush (y := mX11_latherAfter) (pc := 11) dX11_latherAfter_11 (by decide) ?_
        refine go_callS3 (y := mX11_latherAfter) (pc := 14) (y' := mX11_in) (kc2 := 0) (ks2 := 0) dX11_latherAfter_14 ml_X11_86 ok_X11_in ⟨rfl, rfl, rfl⟩ (by decide) (Nat.le_of_ble_eq_true rfl) rfl (m_in (by omega) (by omega) (by omega) (fun v14 e14 b14 => ?_))
        refine go_iconst (y := mX11_latherAfter) (pc := 17) dX11_latherAfter_17 ?_
        refine go_callV2 (y := mX11_latherAfter) (pc := 18) (y' := mX11_right) (kc2 := 0) (ks2 := 0) dX11_latherAfter_18 ml_X11_167 ok_X11_right (show shp 276 = _ from rfl) ⟨_, _, rfl⟩ (by decide) ⟨rfl, rfl⟩ (by decide) (Nat.le_of_ble_eq_true rfl) rfl (m_right h7 (by omega) (by decide) (fun v18 e18 g18 => ?_) (fun g18 => ?_))
        · skip
          refine go_if_ne (y := mX11_latherAfter) (pc := 21) (tgt := 26) dX11_latherAfter_21 (by decide) (by omega) (fun h21 => ?_) (fun h21 => ?_)
          · skip
            refine go_aload_n (y := mX11_latherAfter) (pc := 26) dX11_latherAfter_26 rfl rfl ?_
            refine go_callV0 (y := mX11_latherAfter) (pc := 27) (y' := mX11_tries) (kc2 := 0) (ks2 := 0) dX11_latherAfter_27 ml_X11_378 ok_X11_tries (show shp 276 = _ from rfl) ⟨_, _, rfl⟩ (by decide) trivial (by decide) (Nat.le_of_ble_eq_true rfl) rfl (m_tries ?_)
            refine go_iconst (y := mX11_latherAfter) (pc := 30) dX11_latherAfter_30 ?_
            refine go_istore_n (y := mX11_latherAfter) (pc := 31) dX11_latherAfter_31 rfl (by decide) ?_
            exact loop n 0 ν (by omega) hr
          · skip
            exact absurd h21 (by omega)
        · skip
          exact absurd g' (bI_0 e14 g18)
    · skip
      refine go_aload_n (y := mX11_latherAfter) (pc := 0) dX11_latherAfter_0 rfl rfl ?_
      refine go_iload_n (y := mX11_latherAfter) (pc := 1) dX11_latherAfter_1 rfl rfl ?_
      refine go_callV1 (y := mX11_latherAfter) (pc := 2) (y' := mX11_finds) (kc2 := 0) (ks2 := 0) dX11_latherAfter_2 ml_X11_354 ok_X11_finds (show shp 276 = _ from rfl) ⟨_, _, rfl⟩ (by decide) rfl (by decide) (Nat.le_of_ble_eq_true rfl) rfl (m_finds (by omega) hr hS hC (fun _ => ?_) (fun h9 => absurd g h9))
      refine go_if_eq (y := mX11_latherAfter) (pc := 5) (tgt := 24) dX11_latherAfter_5 (by decide) (by omega) (fun h5 => ?_) (fun h5 => ?_)
      · skip
        exact absurd h5 (by decide)
      · skip
        refine go_aload_n (y := mX11_latherAfter) (pc := 8) dX11_latherAfter_8 rfl rfl ?_
        refine go_iload_n (y := mX11_latherAfter) (pc := 9) dX11_latherAfter_9 rfl rfl ?_
        refine go_iconst (y := mX11_latherAfter) (pc := 10) dX11_latherAfter_10 ?_
        refine go_sipush (y := mX11_latherAfter) (pc := 11) dX11_latherAfter_11 (by decide) ?_
        refine go_callS3 (y := mX11_latherAfter) (pc := 14) (y' := mX11_in) (kc2 := 0) (ks2 := 0) dX11_latherAfter_14 ml_X11_86 ok_X11_in ⟨rfl, rfl, rfl⟩ (by decide) (Nat.le_of_ble_eq_true rfl) rfl (m_in (by omega) (by omega) (by omega) (fun v14 e14 b14 => ?_))
        refine go_iconst (y := mX11_latherAfter) (pc := 17) dX11_latherAfter_17 ?_
        refine go_callV2 (y := mX11_latherAfter) (pc := 18) (y' := mX11_right) (kc2 := 0) (ks2 := 0) dX11_latherAfter_18 ml_X11_167 ok_X11_right (show shp 276 = _ from rfl) ⟨_, _, rfl⟩ (by decide) ⟨rfl, rfl⟩ (by decide) (Nat.le_of_ble_eq_true rfl) rfl (m_right h7 (by omega) (by decide) (fun v18 e18 g18 => ?_) (fun g18 => ?_))
        · skip
          exact absurd (bI_1 e14 (by omega)) g'
        · skip
          refine go_if_ne (y := mX11_latherAfter) (pc := 21) (tgt := 26) dX11_latherAfter_21 (by decide) (by omega) (fun h21 => ?_) (fun h21 => ?_)
          · skip
            exact absurd rfl h21
          · skip
            refine go_iconst (y := mX11_latherAfter) (pc := 24) dX11_latherAfter_24 ?_
            refine go_ireturn (y := mX11_latherAfter) (pc := 25) dX11_latherAfter_25 rfl ?_
            exact K3 g g'
  · skip
    refine go_aload_n (y := mX11_latherAfter) (pc := 0) dX11_latherAfter_0 rfl rfl ?_
    refine go_iload_n (y := mX11_latherAfter) (pc := 1) dX11_latherAfter_1 rfl rfl ?_
    refine go_callV1 (y := mX11_latherAfter) (pc := 2) (y' := mX11_finds) (kc2 := 0) (ks2 := 0) dX11_latherAfter_2 ml_X11_354 ok_X11_finds (show shp 276 = _ from rfl) ⟨_, _, rfl⟩ (by decide) rfl (by decide) (Nat.le_of_ble_eq_true rfl) rfl (m_finds (by omega) hr hS hC (fun h9 => absurd h9 g) (fun _ => ?_))
    refine go_if_eq (y := mX11_latherAfter) (pc := 5) (tgt := 24) dX11_latherAfter_5 (by decide) (by omega) (fun h5 => ?_) (fun h5 => ?_)
    · skip
      refine go_iconst (y := mX11_latherAfter) (pc := 24) dX11_latherAfter_24 ?_
      refine go_ireturn (y := mX11_latherAfter) (pc := 25) dX11_latherAfter_25 rfl ?_
      exact K2 g
    · skip
      exact absurd rfl h5
set_option maxRecDepth 8000 in
set_option maxHeartbeats 4000000 in
theorem m_minutesUntilVote {q : Int} (hq : rng q) (hr : rel S s ν) (hS : wfS S) (hC : wfC S s) {Q : Option Value → Mem → Prop} {X : String → Mem → Prop} (K : ∀ k : Nat, q = k → (k : Int) < s 5 0 → ∀ ν', (∀ j, j < 418 → ν' j = ν j) → Q (some (.int (iI (mvk S s k 301 0)))) (md (cpw (wr σ 0 7 0) 2 0 ν 418) ν' μ)) (K2 : ¬ (0 ≤ q ∧ q < s 5 0) → Q (some (.int (iI 0))) (md (wr (wr σ 0 7 0) 0 7 1) ν μ)) : mt 289 7 0 0 mX11_minutesUntilVote [.ref 276, .int (iI q)] Q X (md σ ν μ) := by
  show go 289 7 0 0 mX11_minutesUntilVote Q X 0 [.ref 276, .int (iI q), .null] [] _
  have h16 := hC.1.2.1
  have h7 := z7 σ
  by_cases g : 0 ≤ q ∧ q < s 5 0
  · obtain ⟨k, rfl⟩ := Int.eq_ofNat_of_zero_le g.1
    have gk := g.2
    have loop : ∀ (j p : Nat) (ν1 : Nat → Int), p + j = 301 → rel S (pms S s p).1 ν1 → (∀ ν', (∀ j, j < 418 → ν' j = ν j) → Q (some (.int (iI (mvk S s k j p)))) (md (cpw (wr σ 0 7 0) 2 0 ν 418) ν' μ)) → go 289 7 0 0 mX11_minutesUntilVote Q X 16 [.ref 276, .int (iI (k : Nat)), .int (iI (p : Nat))] [] (md (cpw (wr σ 0 7 0) 2 0 ν 418) ν1 μ) := by
      intro j
      induction j with
      | zero =>
        intro p ν1 hp hr1 hQ
        refine go_iload_n (y := mX11_minutesUntilVote) (pc := 16) dX11_minutesUntilVote_16 rfl rfl ?_
        refine go_sipush (y := mX11_minutesUntilVote) (pc := 17) dX11_minutesUntilVote_17 (by decide) ?_
        refine go_icmp_gt (y := mX11_minutesUntilVote) (pc := 20) (tgt := 47) dX11_minutesUntilVote_20 (by decide) (by omega) (by omega) (fun h20 => ?_) (fun h20 => ?_)
        · skip
          refine go_aload_n (y := mX11_minutesUntilVote) (pc := 47) dX11_minutesUntilVote_47 rfl rfl ?_
          refine go_iconst (y := mX11_minutesUntilVote) (pc := 48) dX11_minutesUntilVote_48 ?_
          refine go_callV1 (y := mX11_minutesUntilVote) (pc := 49) (y' := mX11_back) (kc2 := 0) (ks2 := 0) dX11_minutesUntilVote_49 ml_X11_384 ok_X11_back (show shp 276 = _ from rfl) ⟨_, _, rfl⟩ (by decide) rfl (by decide) (Nat.le_of_ble_eq_true rfl) rfl (m_back ?_)
          refine go_ireturn (y := mX11_minutesUntilVote) (pc := 52) dX11_minutesUntilVote_52 rfl ?_
          exact hQ _ bk_lo
        · skip
          exact absurd h20 (by omega)
      | succ j ih =>
        intro p ν1 hp hr1 hQ
        have hw := wf_pms hS hC p
        have gk5 : (k : Int) < (pms S s p).1 5 0 := by rw [pms_5]; exact gk
        refine go_iload_n (y := mX11_minutesUntilVote) (pc := 16) dX11_minutesUntilVote_16 rfl rfl ?_
        refine go_sipush (y := mX11_minutesUntilVote) (pc := 17) dX11_minutesUntilVote_17 (by decide) ?_
        refine go_icmp_gt (y := mX11_minutesUntilVote) (pc := 20) (tgt := 47) dX11_minutesUntilVote_20 (by decide) (by omega) (by omega) (fun h20 => ?_) (fun h20 => ?_)
        · skip
          exact absurd h20 (by omega)
        · skip
          refine go_aload_n (y := mX11_minutesUntilVote) (pc := 23) dX11_minutesUntilVote_23 rfl rfl ?_
          refine go_iload_n (y := mX11_minutesUntilVote) (pc := 24) dX11_minutesUntilVote_24 rfl rfl ?_
          refine go_callV1 (y := mX11_minutesUntilVote) (pc := 25) (y' := mX11_prevents) (kc2 := 0) (ks2 := 0) dX11_minutesUntilVote_25 ml_X11_357 ok_X11_prevents (show shp 276 = _ from rfl) ⟨_, _, rfl⟩ (by decide) rfl (by decide) (Nat.le_of_ble_eq_true rfl) rfl (m_prevents gk5 hS hw.1 hr1 (fun v25 e25 b25 => ?_))
          refine go_if_ne (y := mX11_minutesUntilVote) (pc := 28) (tgt := 37) dX11_minutesUntilVote_28 (by decide) (by omega) (fun h28 => ?_) (fun h28 => ?_)
          · skip
            refine go_aload_n (y := mX11_minutesUntilVote) (pc := 37) dX11_minutesUntilVote_37 rfl rfl ?_
            refine go_callV0 (y := mX11_minutesUntilVote) (pc := 38) (y' := mX11_minutePasses) (kc2 := 0) (ks2 := 0) dX11_minutesUntilVote_38 ml_X11_381 ok_X11_minutePasses (show shp 276 = _ from rfl) ⟨_, _, rfl⟩ (by decide) trivial (by decide) (Nat.le_of_ble_eq_true rfl) rfl (m_minutePasses hS hw.1 hr1 (fun ν38 e38 f38 => ?_))
            refine go_iinc (y := mX11_minutesUntilVote) (pc := 41) dX11_minutesUntilVote_41 rfl (by decide) ?_
            refine go_goto (y := mX11_minutesUntilVote) (pc := 44) (tgt := 16) dX11_minutesUntilVote_44 (by decide) ?_
            refine ih (p + 1) ν38 (by omega) e38 (fun ν' hν => ?_)
            have h9 := hQ ν' hν
            rw [mvk, if_neg (by rw [obo_obs gk5, ← e25]; exact h28)] at h9
            exact h9
          · skip
            refine go_aload_n (y := mX11_minutesUntilVote) (pc := 31) dX11_minutesUntilVote_31 rfl rfl ?_
            refine go_iload_n (y := mX11_minutesUntilVote) (pc := 32) dX11_minutesUntilVote_32 rfl rfl ?_
            refine go_callV1 (y := mX11_minutesUntilVote) (pc := 33) (y' := mX11_back) (kc2 := 0) (ks2 := 0) dX11_minutesUntilVote_33 ml_X11_384 ok_X11_back (show shp 276 = _ from rfl) ⟨_, _, rfl⟩ (by decide) rfl (by decide) (Nat.le_of_ble_eq_true rfl) rfl (m_back ?_)
            refine go_ireturn (y := mX11_minutesUntilVote) (pc := 36) dX11_minutesUntilVote_36 rfl ?_
            have h9 := hQ _ (bk_lo (τ := wr σ 0 7 0) (ν1 := ν1))
            rw [mvk, if_pos (by rw [obo_obs gk5, ← e25]; exact h28)] at h9
            exact h9
    refine go_aload_n (y := mX11_minutesUntilVote) (pc := 0) dX11_minutesUntilVote_0 rfl rfl ?_
    refine go_iload_n (y := mX11_minutesUntilVote) (pc := 1) dX11_minutesUntilVote_1 rfl rfl ?_
    refine go_callV1 (y := mX11_minutesUntilVote) (pc := 2) (y' := mX11_finds) (kc2 := 0) (ks2 := 0) dX11_minutesUntilVote_2 ml_X11_354 ok_X11_finds (show shp 276 = _ from rfl) ⟨_, _, rfl⟩ (by decide) rfl (by decide) (Nat.le_of_ble_eq_true rfl) rfl (m_finds (by omega) hr hS hC (fun _ => ?_) (fun h9 => absurd g h9))
    refine go_if_ne (y := mX11_minutesUntilVote) (pc := 5) (tgt := 10) dX11_minutesUntilVote_5 (by decide) (by omega) (fun h5 => ?_) (fun h5 => ?_)
    · skip
      refine go_aload_n (y := mX11_minutesUntilVote) (pc := 10) dX11_minutesUntilVote_10 rfl rfl ?_
      refine go_callV0 (y := mX11_minutesUntilVote) (pc := 11) (y' := mX11_tries) (kc2 := 0) (ks2 := 0) dX11_minutesUntilVote_11 ml_X11_378 ok_X11_tries (show shp 276 = _ from rfl) ⟨_, _, rfl⟩ (by decide) trivial (by decide) (Nat.le_of_ble_eq_true rfl) rfl (m_tries ?_)
      refine go_iconst (y := mX11_minutesUntilVote) (pc := 14) dX11_minutesUntilVote_14 ?_
      refine go_istore_n (y := mX11_minutesUntilVote) (pc := 15) dX11_minutesUntilVote_15 rfl (by decide) ?_
      exact loop 301 0 ν (by omega) hr (fun ν' hν => K k rfl gk ν' hν)
    · skip
      exact absurd h5 (by decide)
  · skip
    refine go_aload_n (y := mX11_minutesUntilVote) (pc := 0) dX11_minutesUntilVote_0 rfl rfl ?_
    refine go_iload_n (y := mX11_minutesUntilVote) (pc := 1) dX11_minutesUntilVote_1 rfl rfl ?_
    refine go_callV1 (y := mX11_minutesUntilVote) (pc := 2) (y' := mX11_finds) (kc2 := 0) (ks2 := 0) dX11_minutesUntilVote_2 ml_X11_354 ok_X11_finds (show shp 276 = _ from rfl) ⟨_, _, rfl⟩ (by decide) rfl (by decide) (Nat.le_of_ble_eq_true rfl) rfl (m_finds (by omega) hr hS hC (fun h9 => absurd h9 g) (fun _ => ?_))
    refine go_if_ne (y := mX11_minutesUntilVote) (pc := 5) (tgt := 10) dX11_minutesUntilVote_5 (by decide) (by omega) (fun h5 => ?_) (fun h5 => ?_)
    · skip
      exact absurd rfl h5
    · skip
      refine go_iconst (y := mX11_minutesUntilVote) (pc := 8) dX11_minutesUntilVote_8 ?_
      refine go_ireturn (y := mX11_minutesUntilVote) (pc := 9) dX11_minutesUntilVote_9 rfl ?_
      exact K2 g
set_option maxRecDepth 8000 in
set_option maxHeartbeats 4000000 in
theorem m_minutesUntilSpeech {m : Int} (hm : rng m) (hr : rel S s ν) (hS : wfS S) (hC : wfC S s) {Q : Option Value → Mem → Prop} {X : String → Mem → Prop} (K : ∀ k : Nat, m = k → (k : Int) < S 0 7 → plc s k = -1 → Q (some (.int (iI (-1)))) (md (wr σ 0 7 0) ν μ)) (K2 : ∀ k : Nat, m = k → (k : Int) < S 0 7 → plc s k ≠ -1 → ∀ ν', (∀ j, j < 418 → ν' j = ν j) → Q (some (.int (iI (msk S s k 300 1)))) (md (cpw (wr σ 0 7 0) 2 0 ν 418) ν' μ)) (K3 : ¬ (0 ≤ m ∧ m < S 0 7) → Q (some (.int (iI 0))) (md (wr (wr σ 0 7 0) 0 7 1) ν μ)) : mt 289 7 0 0 mX11_minutesUntilSpeech [.ref 276, .int (iI m)] Q X (md σ ν μ) := by
  show go 289 7 0 0 mX11_minutesUntilSpeech Q X 0 [.ref 276, .int (iI m), .null] [] _
  obtain ⟨n1, n12, c1, c4⟩ := wf_n hS
  obtain ⟨q0, q16, r0, r12⟩ := wf_r hS hC
  have h7 := z7 σ
  by_cases g : 0 ≤ m ∧ m < S 0 7
  · obtain ⟨k, rfl⟩ := Int.eq_ofNat_of_zero_le g.1
    have gk := g.2
    have loop : ∀ (j p : Nat) (ν1 : Nat → Int), p + j = 300 → rel S (pms S s p).1 ν1 → (∀ ν', (∀ j, j < 418 → ν' j = ν j) → Q (some (.int (iI (msk S s k j (p + 1))))) (md (cpw (wr σ 0 7 0) 2 0 ν 418) ν' μ)) → go 289 7 0 0 mX11_minutesUntilSpeech Q X 37 [.ref 276, .int (iI (k : Nat)), .int (iI (p + 1 : Nat))] [] (md (cpw (wr σ 0 7 0) 2 0 ν 418) ν1 μ) := by
      intro j
      induction j with
      | zero =>
        intro p ν1 hp hr1 hQ
        refine go_iload_n (y := mX11_minutesUntilSpeech) (pc := 37) dX11_minutesUntilSpeech_37 rfl rfl ?_
        refine go_sipush (y := mX11_minutesUntilSpeech) (pc := 38) dX11_minutesUntilSpeech_38 (by decide) ?_
        refine go_icmp_gt (y := mX11_minutesUntilSpeech) (pc := 41) (tgt := 69) dX11_minutesUntilSpeech_41 (by decide) (by omega) (by omega) (fun h41 => ?_) (fun h41 => ?_)
        · skip
          refine go_aload_n (y := mX11_minutesUntilSpeech) (pc := 69) dX11_minutesUntilSpeech_69 rfl rfl ?_
          refine go_iconst (y := mX11_minutesUntilSpeech) (pc := 70) dX11_minutesUntilSpeech_70 ?_
          refine go_callV1 (y := mX11_minutesUntilSpeech) (pc := 71) (y' := mX11_back) (kc2 := 0) (ks2 := 0) dX11_minutesUntilSpeech_71 ml_X11_384 ok_X11_back (show shp 276 = _ from rfl) ⟨_, _, rfl⟩ (by decide) rfl (by decide) (Nat.le_of_ble_eq_true rfl) rfl (m_back ?_)
          refine go_ireturn (y := mX11_minutesUntilSpeech) (pc := 74) dX11_minutesUntilSpeech_74 rfl ?_
          exact hQ _ bk_lo
        · skip
          exact absurd h41 (by omega)
      | succ j ih =>
        intro p ν1 hp hr1 hQ
        have hw := wf_pms hS hC p
        have hw1 := wf_pms hS hC (p + 1)
        have hw2 := wf_r hS hw1.1
        refine go_iload_n (y := mX11_minutesUntilSpeech) (pc := 37) dX11_minutesUntilSpeech_37 rfl rfl ?_
        refine go_sipush (y := mX11_minutesUntilSpeech) (pc := 38) dX11_minutesUntilSpeech_38 (by decide) ?_
        refine go_icmp_gt (y := mX11_minutesUntilSpeech) (pc := 41) (tgt := 69) dX11_minutesUntilSpeech_41 (by decide) (by omega) (by omega) (fun h41 => ?_) (fun h41 => ?_)
        · skip
          exact absurd h41 (by omega)
        · skip
          refine go_aload_n (y := mX11_minutesUntilSpeech) (pc := 44) dX11_minutesUntilSpeech_44 rfl rfl ?_
          refine go_callV0 (y := mX11_minutesUntilSpeech) (pc := 45) (y' := mX11_minutePasses) (kc2 := 0) (ks2 := 0) dX11_minutesUntilSpeech_45 ml_X11_381 ok_X11_minutePasses (show shp 276 = _ from rfl) ⟨_, _, rfl⟩ (by decide) trivial (by decide) (Nat.le_of_ble_eq_true rfl) rfl (m_minutePasses hS hw.1 hr1 (fun ν45 e45 f45 => ?_))
          refine go_aload_n (y := mX11_minutesUntilSpeech) (pc := 48) dX11_minutesUntilSpeech_48 rfl rfl ?_
          refine go_iload_n (y := mX11_minutesUntilSpeech) (pc := 49) dX11_minutesUntilSpeech_49 rfl rfl ?_
          refine go_callV1 (y := mX11_minutesUntilSpeech) (pc := 50) (y' := mX11_listedAt) (kc2 := 0) (ks2 := 0) dX11_minutesUntilSpeech_50 ml_X11_351 ok_X11_listedAt (show shp 276 = _ from rfl) ⟨_, _, rfl⟩ (by decide) rfl (by decide) (Nat.le_of_ble_eq_true rfl) rfl (m_listedAt (s := (pms S s (p + 1)).1) (by omega) e45 hS hw1.1 (fun v50 e50 b50 => ?_))
          refine go_iconst (y := mX11_minutesUntilSpeech) (pc := 53) dX11_minutesUntilSpeech_53 ?_
          refine go_icmp_ne (y := mX11_minutesUntilSpeech) (pc := 54) (tgt := 63) dX11_minutesUntilSpeech_54 (by decide) (by omega) (by omega) (fun h54 => ?_) (fun h54 => ?_)
          · skip
            refine go_iinc (y := mX11_minutesUntilSpeech) (pc := 63) dX11_minutesUntilSpeech_63 rfl (by decide) ?_
            refine go_goto (y := mX11_minutesUntilSpeech) (pc := 66) (tgt := 37) dX11_minutesUntilSpeech_66 (by decide) ?_
            refine ih (p + 1) ν45 (by omega) e45 (fun ν' hν => ?_)
            have h9 := hQ ν' hν
            rw [msk, if_neg (fun w => h54 (e50.trans w))] at h9
            exact h9
          · skip
            refine go_aload_n (y := mX11_minutesUntilSpeech) (pc := 57) dX11_minutesUntilSpeech_57 rfl rfl ?_
            refine go_iload_n (y := mX11_minutesUntilSpeech) (pc := 58) dX11_minutesUntilSpeech_58 rfl rfl ?_
            refine go_callV1 (y := mX11_minutesUntilSpeech) (pc := 59) (y' := mX11_back) (kc2 := 0) (ks2 := 0) dX11_minutesUntilSpeech_59 ml_X11_384 ok_X11_back (show shp 276 = _ from rfl) ⟨_, _, rfl⟩ (by decide) rfl (by decide) (Nat.le_of_ble_eq_true rfl) rfl (m_back ?_)
            refine go_ireturn (y := mX11_minutesUntilSpeech) (pc := 62) dX11_minutesUntilSpeech_62 rfl ?_
            have h9 := hQ _ (bk_lo (τ := wr σ 0 7 0) (ν1 := ν45))
            rw [msk, if_pos (e50.symm.trans h54)] at h9
            exact h9
    refine go_aload_n (y := mX11_minutesUntilSpeech) (pc := 0) dX11_minutesUntilSpeech_0 rfl rfl ?_
    refine go_iconst (y := mX11_minutesUntilSpeech) (pc := 1) dX11_minutesUntilSpeech_1 ?_
    refine go_mput (y := mX11_minutesUntilSpeech) (pc := 2) dX11_minutesUntilSpeech_2 fp_X11_83 rfl rfl (by decide) (by omega) ?_
    refine go_aload_n (y := mX11_minutesUntilSpeech) (pc := 5) dX11_minutesUntilSpeech_5 rfl rfl ?_
    refine go_aload_n (y := mX11_minutesUntilSpeech) (pc := 6) dX11_minutesUntilSpeech_6 rfl rfl ?_
    refine go_iload_n (y := mX11_minutesUntilSpeech) (pc := 7) dX11_minutesUntilSpeech_7 rfl rfl ?_
    refine go_callV1 (y := mX11_minutesUntilSpeech) (pc := 8) (y' := mX11_isMember) (kc2 := 0) (ks2 := 0) dX11_minutesUntilSpeech_8 ml_X11_339 ok_X11_isMember (show shp 276 = _ from rfl) ⟨_, _, rfl⟩ (by decide) rfl (by decide) (Nat.le_of_ble_eq_true rfl) rfl (m_isMember (by omega) hr hS (fun v8 e8 b8 => ?_))
    refine go_iconst (y := mX11_minutesUntilSpeech) (pc := 11) dX11_minutesUntilSpeech_11 ?_
    refine go_callV2 (y := mX11_minutesUntilSpeech) (pc := 12) (y' := mX11_right) (kc2 := 0) (ks2 := 0) dX11_minutesUntilSpeech_12 ml_X11_167 ok_X11_right (show shp 276 = _ from rfl) ⟨_, _, rfl⟩ (by decide) ⟨rfl, rfl⟩ (by decide) (Nat.le_of_ble_eq_true rfl) rfl (m_right h7 (by omega) (by decide) (fun v12 e12 g12 => ?_) (fun g12 => ?_))
    · skip
      refine go_if_ne (y := mX11_minutesUntilSpeech) (pc := 15) (tgt := 20) dX11_minutesUntilSpeech_15 (by decide) (by omega) (fun h15 => ?_) (fun h15 => ?_)
      · skip
        refine go_aload_n (y := mX11_minutesUntilSpeech) (pc := 20) dX11_minutesUntilSpeech_20 rfl rfl ?_
        refine go_iload_n (y := mX11_minutesUntilSpeech) (pc := 21) dX11_minutesUntilSpeech_21 rfl rfl ?_
        refine go_callV1 (y := mX11_minutesUntilSpeech) (pc := 22) (y' := mX11_listedAt) (kc2 := 0) (ks2 := 0) dX11_minutesUntilSpeech_22 ml_X11_351 ok_X11_listedAt (show shp 276 = _ from rfl) ⟨_, _, rfl⟩ (by decide) rfl (by decide) (Nat.le_of_ble_eq_true rfl) rfl (m_listedAt (by omega) hr hS hC (fun v22 e22 b22 => ?_))
        refine go_iconst (y := mX11_minutesUntilSpeech) (pc := 25) dX11_minutesUntilSpeech_25 ?_
        refine go_icmp_ne (y := mX11_minutesUntilSpeech) (pc := 26) (tgt := 31) dX11_minutesUntilSpeech_26 (by decide) (by omega) (by omega) (fun h26 => ?_) (fun h26 => ?_)
        · skip
          refine go_aload_n (y := mX11_minutesUntilSpeech) (pc := 31) dX11_minutesUntilSpeech_31 rfl rfl ?_
          refine go_callV0 (y := mX11_minutesUntilSpeech) (pc := 32) (y' := mX11_tries) (kc2 := 0) (ks2 := 0) dX11_minutesUntilSpeech_32 ml_X11_378 ok_X11_tries (show shp 276 = _ from rfl) ⟨_, _, rfl⟩ (by decide) trivial (by decide) (Nat.le_of_ble_eq_true rfl) rfl (m_tries ?_)
          refine go_iconst (y := mX11_minutesUntilSpeech) (pc := 35) dX11_minutesUntilSpeech_35 ?_
          refine go_istore_n (y := mX11_minutesUntilSpeech) (pc := 36) dX11_minutesUntilSpeech_36 rfl (by decide) ?_
          exact loop 300 0 ν (by omega) hr (fun ν' hν => K2 k rfl gk (fun w => h26 (e22.trans w)) ν' hν)
        · skip
          refine go_iconst (y := mX11_minutesUntilSpeech) (pc := 29) dX11_minutesUntilSpeech_29 ?_
          refine go_ireturn (y := mX11_minutesUntilSpeech) (pc := 30) dX11_minutesUntilSpeech_30 rfl ?_
          exact K k rfl gk (e22.symm.trans h26)
      · skip
        exact absurd h15 (by omega)
    · skip
      exact absurd g (bI_0 e8 g12)
  · skip
    refine go_aload_n (y := mX11_minutesUntilSpeech) (pc := 0) dX11_minutesUntilSpeech_0 rfl rfl ?_
    refine go_iconst (y := mX11_minutesUntilSpeech) (pc := 1) dX11_minutesUntilSpeech_1 ?_
    refine go_mput (y := mX11_minutesUntilSpeech) (pc := 2) dX11_minutesUntilSpeech_2 fp_X11_83 rfl rfl (by decide) (by omega) ?_
    refine go_aload_n (y := mX11_minutesUntilSpeech) (pc := 5) dX11_minutesUntilSpeech_5 rfl rfl ?_
    refine go_aload_n (y := mX11_minutesUntilSpeech) (pc := 6) dX11_minutesUntilSpeech_6 rfl rfl ?_
    refine go_iload_n (y := mX11_minutesUntilSpeech) (pc := 7) dX11_minutesUntilSpeech_7 rfl rfl ?_
    refine go_callV1 (y := mX11_minutesUntilSpeech) (pc := 8) (y' := mX11_isMember) (kc2 := 0) (ks2 := 0) dX11_minutesUntilSpeech_8 ml_X11_339 ok_X11_isMember (show shp 276 = _ from rfl) ⟨_, _, rfl⟩ (by decide) rfl (by decide) (Nat.le_of_ble_eq_true rfl) rfl (m_isMember (by omega) hr hS (fun v8 e8 b8 => ?_))
    refine go_iconst (y := mX11_minutesUntilSpeech) (pc := 11) dX11_minutesUntilSpeech_11 ?_
    refine go_callV2 (y := mX11_minutesUntilSpeech) (pc := 12) (y' := mX11_right) (kc2 := 0) (ks2 := 0) dX11_minutesUntilSpeech_12 ml_X11_167 ok_X11_right (show shp 276 = _ from rfl) ⟨_, _, rfl⟩ (by decide) ⟨rfl, rfl⟩ (by decide) (Nat.le_of_ble_eq_true rfl) rfl (m_right h7 (by omega) (by decide) (fun v12 e12 g12 => ?_) (fun g12 => ?_))
    · skip
      exact absurd (bI_1 e8 (by omega)) g
    · skip
      refine go_if_ne (y := mX11_minutesUntilSpeech) (pc := 15) (tgt := 20) dX11_minutesUntilSpeech_15 (by decide) (by omega) (fun h15 => ?_) (fun h15 => ?_)
      · skip
        exact absurd rfl h15
      · skip
        refine go_iconst (y := mX11_minutesUntilSpeech) (pc := 18) dX11_minutesUntilSpeech_18 ?_
        refine go_ireturn (y := mX11_minutesUntilSpeech) (pc := 19) dX11_minutesUntilSpeech_19 rfl ?_
        exact K3 g
end MFor
