/-! THE MODEL: changes called from outside -/
section MPub
variable {S s σ μ : Mem} {ν : Nat → Int}
theorem z6 {σ : Mem} (h : 0 ≤ σ 0 6 ∧ σ 0 6 ≤ 8) : 0 ≤ wr σ 0 7 0 0 6 ∧ wr σ 0 7 0 0 6 ≤ 8 := by rw [wr_ni (by decide)]; exact h
set_option maxRecDepth 8000 in
set_option maxHeartbeats 4000000 in
theorem m_propose {m x : Int} (hm : rng m) (hx : rng x) (h6 : 0 ≤ σ 0 6 ∧ σ 0 6 ≤ 8) (hr : rel S s ν) (hS : wfS S) (hC : wfC S s) {Q : Option Value → Mem → Prop} {X : String → Mem → Prop} (K : rfMo S s m x = 0 → ∀ ν', rel S (amo S s m x) ν' → Q (some (.int (iI (s 5 0)))) (md (chg (wr σ 0 7 0) ν) ν' μ)) (K2 : rfMo S s m x ≠ 0 → Q (some (.int (iI 0))) (md (wr (wr σ 0 7 0) 0 7 (rfMo S s m x)) ν μ)) : mt 289 3 0 0 mX11_propose [.ref 276, .int (iI m), .int (iI x)] Q X (md σ ν μ) := by
  show go 289 3 0 0 mX11_propose Q X 0 [.ref 276, .int (iI m), .int (iI x)] [] _
  refine go_aload_n (y := mX11_propose) (pc := 0) dX11_propose_0 rfl rfl ?_
  refine go_iconst (y := mX11_propose) (pc := 1) dX11_propose_1 ?_
  refine go_mput (y := mX11_propose) (pc := 2) dX11_propose_2 fp_X11_83 rfl rfl (by decide) (by omega) ?_
  refine go_aload_n (y := mX11_propose) (pc := 5) dX11_propose_5 rfl rfl ?_
  refine go_iload_n (y := mX11_propose) (pc := 6) dX11_propose_6 rfl rfl ?_
  refine go_iload_n (y := mX11_propose) (pc := 7) dX11_propose_7 rfl rfl ?_
  refine go_callV2 (y := mX11_propose) (pc := 8) (y' := mX11_proposing) (kc2 := 0) (ks2 := 0) dX11_propose_8 ml_X11_298 ok_X11_proposing (show shp 276 = _ from rfl) ⟨_, _, rfl⟩ (by decide) ⟨rfl, rfl⟩ (by decide) (Nat.le_of_ble_eq_true rfl) rfl (m_proposing hm hx (z7 σ) (z6 h6) hr hS hC (fun g ν' hν => ?_) (fun g => ?_))
  · skip
    refine go_ireturn (y := mX11_propose) (pc := 11) dX11_propose_11 rfl ?_
    exact K g ν' hν
  · skip
    refine go_ireturn (y := mX11_propose) (pc := 11) dX11_propose_11 rfl ?_
    exact K2 g
set_option maxRecDepth 8000 in
set_option maxHeartbeats 4000000 in
theorem m_rebut {m h : Int} (hm : rng m) (hh : rng h) (h6 : 0 ≤ σ 0 6 ∧ σ 0 6 ≤ 8) (hr : rel S s ν) (hS : wfS S) (hC : wfC S s) {Q : Option Value → Mem → Prop} {X : String → Mem → Prop} (K : rfRb S s m h = 0 → ∀ ν', rel S (reb s h.toNat) ν' → Q (some (.int (iI (frm S (reb s h.toNat))))) (md (chg (wr σ 0 7 0) ν) ν' μ)) (K2 : rfRb S s m h ≠ 0 → Q (some (.int (iI 0))) (md (wr (wr σ 0 7 0) 0 7 (t2 (rfRb S s m h))) ν μ)) : mt 289 4 0 0 mX11_rebut [.ref 276, .int (iI m), .int (iI h)] Q X (md σ ν μ) := by
  show go 289 4 0 0 mX11_rebut Q X 0 [.ref 276, .int (iI m), .int (iI h)] [] _
  refine go_aload_n (y := mX11_rebut) (pc := 0) dX11_rebut_0 rfl rfl ?_
  refine go_iconst (y := mX11_rebut) (pc := 1) dX11_rebut_1 ?_
  refine go_mput (y := mX11_rebut) (pc := 2) dX11_rebut_2 fp_X11_83 rfl rfl (by decide) (by omega) ?_
  refine go_aload_n (y := mX11_rebut) (pc := 5) dX11_rebut_5 rfl rfl ?_
  refine go_iload_n (y := mX11_rebut) (pc := 6) dX11_rebut_6 rfl rfl ?_
  refine go_iload_n (y := mX11_rebut) (pc := 7) dX11_rebut_7 rfl rfl ?_
  refine go_callV2 (y := mX11_rebut) (pc := 8) (y' := mX11_rebutting) (kc2 := 0) (ks2 := 0) dX11_rebut_8 ml_X11_305 ok_X11_rebutting (show shp 276 = _ from rfl) ⟨_, _, rfl⟩ (by decide) ⟨rfl, rfl⟩ (by decide) (Nat.le_of_ble_eq_true rfl) rfl (m_rebutting hm hh (z7 σ) (z6 h6) hr hS hC (fun g ν' hν => ?_) (fun g => ?_))
  · skip
    refine go_ireturn (y := mX11_rebut) (pc := 11) dX11_rebut_11 rfl ?_
    exact K g ν' hν
  · skip
    refine go_ireturn (y := mX11_rebut) (pc := 11) dX11_rebut_11 rfl ?_
    exact K2 g
set_option maxRecDepth 8000 in
set_option maxHeartbeats 4000000 in
theorem m_advance {n : Int} (hn : rng n) (h6 : 0 ≤ σ 0 6 ∧ σ 0 6 ≤ 8) (hr : rel S s ν) (hS : wfS S) (hC : wfC S s) {Q : Option Value → Mem → Prop} {X : String → Mem → Prop} (K : rfWt s n = 0 → ∀ ν', rel S ((pms S s n.toNat).1) ν' → Q (some (.int (iI ((pms S s n.toNat).2)))) (md (chg (wr σ 0 7 0) ν) ν' μ)) (K2 : rfWt s n ≠ 0 → Q (some (.int (iI 0))) (md (wr (wr σ 0 7 0) 0 7 (rfWt s n - 1)) ν μ)) : mt 289 7 0 0 mX11_advance [.ref 276, .int (iI n)] Q X (md σ ν μ) := by
  show go 289 7 0 0 mX11_advance Q X 0 [.ref 276, .int (iI n)] [] _
  refine go_aload_n (y := mX11_advance) (pc := 0) dX11_advance_0 rfl rfl ?_
  refine go_iconst (y := mX11_advance) (pc := 1) dX11_advance_1 ?_
  refine go_mput (y := mX11_advance) (pc := 2) dX11_advance_2 fp_X11_83 rfl rfl (by decide) (by omega) ?_
  refine go_aload_n (y := mX11_advance) (pc := 5) dX11_advance_5 rfl rfl ?_
  refine go_iload_n (y := mX11_advance) (pc := 6) dX11_advance_6 rfl rfl ?_
  refine go_callV1 (y := mX11_advance) (pc := 7) (y' := mX11_advancing) (kc2 := 0) (ks2 := 0) dX11_advance_7 ml_X11_308 ok_X11_advancing (show shp 276 = _ from rfl) ⟨_, _, rfl⟩ (by decide) rfl (by decide) (Nat.le_of_ble_eq_true rfl) rfl (m_advancing hn (z7 σ) (z6 h6) hr hS hC (fun g ν' hν => ?_) (fun g => ?_))
  · skip
    refine go_ireturn (y := mX11_advance) (pc := 10) dX11_advance_10 rfl ?_
    exact K g ν' hν
  · skip
    refine go_ireturn (y := mX11_advance) (pc := 10) dX11_advance_10 rfl ?_
    exact K2 g
set_option maxRecDepth 8000 in
set_option maxHeartbeats 4000000 in
theorem m_withdraw {q : Int} (hq : rng q) (h6 : 0 ≤ σ 0 6 ∧ σ 0 6 ≤ 8) (hr : rel S s ν) (hS : wfS S) (hC : wfC S s) {Q : Option Value → Mem → Prop} {X : String → Mem → Prop} (K : rfWd s q = 0 → ∀ ν', rel S (clo s q.toNat 3) ν' → Q (some (.int (iI (s 11 0 - clo s q.toNat 3 11 0)))) (md (chg (wr σ 0 7 0) ν) ν' μ)) (K2 : rfWd s q ≠ 0 → Q (some (.int (iI 0))) (md (wr (wr σ 0 7 0) 0 7 (t2 (rfWd s q))) ν μ)) : mt 289 3 0 0 mX11_withdraw [.ref 276, .int (iI q)] Q X (md σ ν μ) := by
  show go 289 3 0 0 mX11_withdraw Q X 0 [.ref 276, .int (iI q)] [] _
  refine go_aload_n (y := mX11_withdraw) (pc := 0) dX11_withdraw_0 rfl rfl ?_
  refine go_iconst (y := mX11_withdraw) (pc := 1) dX11_withdraw_1 ?_
  refine go_mput (y := mX11_withdraw) (pc := 2) dX11_withdraw_2 fp_X11_83 rfl rfl (by decide) (by omega) ?_
  refine go_aload_n (y := mX11_withdraw) (pc := 5) dX11_withdraw_5 rfl rfl ?_
  refine go_iload_n (y := mX11_withdraw) (pc := 6) dX11_withdraw_6 rfl rfl ?_
  refine go_callV1 (y := mX11_withdraw) (pc := 7) (y' := mX11_withdrawing) (kc2 := 0) (ks2 := 0) dX11_withdraw_7 ml_X11_314 ok_X11_withdrawing (show shp 276 = _ from rfl) ⟨_, _, rfl⟩ (by decide) rfl (by decide) (Nat.le_of_ble_eq_true rfl) rfl (m_withdrawing hq (z7 σ) (z6 h6) hr hS hC (fun g ν' hν => ?_) (fun g => ?_))
  · skip
    refine go_ireturn (y := mX11_withdraw) (pc := 10) dX11_withdraw_10 rfl ?_
    exact K g ν' hν
  · skip
    refine go_ireturn (y := mX11_withdraw) (pc := 10) dX11_withdraw_10 rfl ?_
    exact K2 g
set_option maxRecDepth 8000 in
set_option maxHeartbeats 4000000 in
theorem m_sharpen {m : Int} (hm : rng m) (h6 : 0 ≤ σ 0 6 ∧ σ 0 6 ≤ 8) (hr : rel S s ν) (hS : wfS S) (hC : wfC S s) {Q : Option Value → Mem → Prop} {X : String → Mem → Prop} (K : rfSh S s m = 0 → ∀ ν', rel S (shp5 s m.toNat) ν' → Q (some (.int (iI (s 2 m.toNat - 2)))) (md (chg (wr σ 0 7 0) ν) ν' μ)) (K2 : rfSh S s m ≠ 0 → Q (some (.int (iI 0))) (md (wr (wr σ 0 7 0) 0 7 (t2 (rfSh S s m))) ν μ)) : mt 289 3 0 0 mX11_sharpen [.ref 276, .int (iI m)] Q X (md σ ν μ) := by
  show go 289 3 0 0 mX11_sharpen Q X 0 [.ref 276, .int (iI m)] [] _
  refine go_aload_n (y := mX11_sharpen) (pc := 0) dX11_sharpen_0 rfl rfl ?_
  refine go_iconst (y := mX11_sharpen) (pc := 1) dX11_sharpen_1 ?_
  refine go_mput (y := mX11_sharpen) (pc := 2) dX11_sharpen_2 fp_X11_83 rfl rfl (by decide) (by omega) ?_
  refine go_aload_n (y := mX11_sharpen) (pc := 5) dX11_sharpen_5 rfl rfl ?_
  refine go_iload_n (y := mX11_sharpen) (pc := 6) dX11_sharpen_6 rfl rfl ?_
  refine go_callV1 (y := mX11_sharpen) (pc := 7) (y' := mX11_sharpening) (kc2 := 0) (ks2 := 0) dX11_sharpen_7 ml_X11_317 ok_X11_sharpening (show shp 276 = _ from rfl) ⟨_, _, rfl⟩ (by decide) rfl (by decide) (Nat.le_of_ble_eq_true rfl) rfl (m_sharpening hm (z7 σ) (z6 h6) hr hS hC (fun g ν' hν => ?_) (fun g => ?_))
  · skip
    refine go_ireturn (y := mX11_sharpen) (pc := 10) dX11_sharpen_10 rfl ?_
    exact K g ν' hν
  · skip
    refine go_ireturn (y := mX11_sharpen) (pc := 10) dX11_sharpen_10 rfl ?_
    exact K2 g
set_option maxRecDepth 8000 in
set_option maxHeartbeats 4000000 in
theorem m_setRanking {r : Int} (hr9 : rng r) (h6 : 0 ≤ σ 0 6 ∧ σ 0 6 ≤ 8) (hr : rel S s ν) (hS : wfS S) (hC : wfC S s) {Q : Option Value → Mem → Prop} {X : String → Mem → Prop} (K : rfRk r = 0 → ∀ ν', rel S (wr s 0 6 r) ν' → Q (some (.int (iI (s 0 6)))) (md (chg (wr σ 0 7 0) ν) ν' μ)) (K2 : rfRk r ≠ 0 → Q (some (.int (iI 0))) (md (wr (wr σ 0 7 0) 0 7 (t2 (rfRk r))) ν μ)) : mt 289 3 0 0 mX11_setRanking [.ref 276, .int (iI r)] Q X (md σ ν μ) := by
  show go 289 3 0 0 mX11_setRanking Q X 0 [.ref 276, .int (iI r)] [] _
  refine go_aload_n (y := mX11_setRanking) (pc := 0) dX11_setRanking_0 rfl rfl ?_
  refine go_iconst (y := mX11_setRanking) (pc := 1) dX11_setRanking_1 ?_
  refine go_mput (y := mX11_setRanking) (pc := 2) dX11_setRanking_2 fp_X11_83 rfl rfl (by decide) (by omega) ?_
  refine go_aload_n (y := mX11_setRanking) (pc := 5) dX11_setRanking_5 rfl rfl ?_
  refine go_iload_n (y := mX11_setRanking) (pc := 6) dX11_setRanking_6 rfl rfl ?_
  refine go_callV1 (y := mX11_setRanking) (pc := 7) (y' := mX11_ranks) (kc2 := 0) (ks2 := 0) dX11_setRanking_7 ml_X11_320 ok_X11_ranks (show shp 276 = _ from rfl) ⟨_, _, rfl⟩ (by decide) rfl (by decide) (Nat.le_of_ble_eq_true rfl) rfl (m_ranks hr9 (z7 σ) (z6 h6) hr hS hC (fun g ν' hν => ?_) (fun g => ?_))
  · skip
    refine go_ireturn (y := mX11_setRanking) (pc := 10) dX11_setRanking_10 rfl ?_
    exact K g ν' hν
  · skip
    refine go_ireturn (y := mX11_setRanking) (pc := 10) dX11_setRanking_10 rfl ?_
    exact K2 g
set_option maxRecDepth 8000 in
set_option maxHeartbeats 4000000 in
theorem m_vote {q : Int} (hq : rng q) (h6 : 0 ≤ σ 0 6 ∧ σ 0 6 ≤ 8) (hr : rel S s ν) (hS : wfS S) (hC : wfC S s) {Q : Option Value → Mem → Prop} {X : String → Mem → Prop} (K : rfVt S s q = 0 → ∀ ν', rel S (hvo S s q.toNat) ν' → Q (some (.int (iI (bI (0 < mgn S s q.toNat))))) (md (chg (wr σ 0 7 0) ν) ν' μ)) (K2 : rfVt S s q ≠ 0 → Q (some (.int (iI 0))) (md (wr (wr σ 0 7 0) 0 7 (t2 (rfVt S s q))) ν μ)) : mt 289 5 0 0 mX11_vote [.ref 276, .int (iI q)] Q X (md σ ν μ) := by
  show go 289 5 0 0 mX11_vote Q X 0 [.ref 276, .int (iI q)] [] _
  have b01 := bI_01 (0 < mgn S s q.toNat)
  refine go_aload_n (y := mX11_vote) (pc := 0) dX11_vote_0 rfl rfl ?_
  refine go_iconst (y := mX11_vote) (pc := 1) dX11_vote_1 ?_
  refine go_mput (y := mX11_vote) (pc := 2) dX11_vote_2 fp_X11_83 rfl rfl (by decide) (by omega) ?_
  refine go_aload_n (y := mX11_vote) (pc := 5) dX11_vote_5 rfl rfl ?_
  refine go_iload_n (y := mX11_vote) (pc := 6) dX11_vote_6 rfl rfl ?_
  refine go_callV1 (y := mX11_vote) (pc := 7) (y' := mX11_voting) (kc2 := 0) (ks2 := 0) dX11_vote_7 ml_X11_311 ok_X11_voting (show shp 276 = _ from rfl) ⟨_, _, rfl⟩ (by decide) rfl (by decide) (Nat.le_of_ble_eq_true rfl) rfl (m_voting hq (z7 σ) (z6 h6) hr hS hC (fun g ν' hν => ?_) (fun g => ?_))
  · skip
    refine go_iconst (y := mX11_vote) (pc := 10) dX11_vote_10 ?_
    refine go_icmp_ne (y := mX11_vote) (pc := 11) (tgt := 18) dX11_vote_11 (by decide) (by omega) (by omega) (fun h11 => ?_) (fun h11 => ?_)
    · skip
      have h := K g ν' hν
      rw [show bI (0 < mgn S s q.toNat) = 0 by omega] at h
      refine go_iconst (y := mX11_vote) (pc := 18) dX11_vote_18 ?_
      refine go_zreturn (y := mX11_vote) (pc := 19) dX11_vote_19 rfl (by omega) ?_
      exact h
    · skip
      have h := K g ν' hν
      rw [show bI (0 < mgn S s q.toNat) = 1 by omega] at h
      refine go_iconst (y := mX11_vote) (pc := 14) dX11_vote_14 ?_
      refine go_goto (y := mX11_vote) (pc := 15) (tgt := 19) dX11_vote_15 (by decide) ?_
      refine go_zreturn (y := mX11_vote) (pc := 19) dX11_vote_19 rfl (by omega) ?_
      exact h
  · skip
    refine go_iconst (y := mX11_vote) (pc := 10) dX11_vote_10 ?_
    refine go_icmp_ne (y := mX11_vote) (pc := 11) (tgt := 18) dX11_vote_11 (by decide) (by omega) (by omega) (fun h11 => ?_) (fun h11 => ?_)
    · skip
      refine go_iconst (y := mX11_vote) (pc := 18) dX11_vote_18 ?_
      refine go_zreturn (y := mX11_vote) (pc := 19) dX11_vote_19 rfl (by omega) ?_
      exact K2 g
    · skip
      exact absurd h11 (by decide)
set_option maxRecDepth 8000 in
set_option maxHeartbeats 4000000 in
theorem m_request {m q f : Int} (hm : rng m) (hq : rng q) (hf : f = 0 ∨ f = 1) (h6 : 0 ≤ σ 0 6 ∧ σ 0 6 ≤ 8) (hr : rel S s ν) (hS : wfS S) (hC : wfC S s) {Q : Option Value → Mem → Prop} {X : String → Mem → Prop} (K : rfRq S s m q = 0 → ∀ ν', rel S (rad s m q (if f = 0 then -1 else 1)) ν' → Q (some (.int (iI (s 11 0)))) (md (chg (wr σ 0 7 0) ν) ν' μ)) (K2 : rfRq S s m q ≠ 0 → Q (some (.int (iI 0))) (md (wr (wr σ 0 7 0) 0 7 (t2 (rfRq S s m q))) ν μ)) : mt 289 3 0 0 mX11_request [.ref 276, .int (iI m), .int (iI q), .int (iI f)] Q X (md σ ν μ) := by
  show go 289 3 0 0 mX11_request Q X 0 [.ref 276, .int (iI m), .int (iI q), .int (iI f)] [] _
  refine go_aload_n (y := mX11_request) (pc := 0) dX11_request_0 rfl rfl ?_
  refine go_iconst (y := mX11_request) (pc := 1) dX11_request_1 ?_
  refine go_mput (y := mX11_request) (pc := 2) dX11_request_2 fp_X11_83 rfl rfl (by decide) (by omega) ?_
  refine go_aload_n (y := mX11_request) (pc := 5) dX11_request_5 rfl rfl ?_
  refine go_iload_n (y := mX11_request) (pc := 6) dX11_request_6 rfl rfl ?_
  refine go_iload_n (y := mX11_request) (pc := 7) dX11_request_7 rfl rfl ?_
  refine go_iload_n (y := mX11_request) (pc := 8) dX11_request_8 rfl rfl ?_
  refine go_if_eq (y := mX11_request) (pc := 9) (tgt := 16) dX11_request_9 (by decide) (by omega) (fun h9 => ?_) (fun h9 => ?_)
  · skip
    rw [if_pos (by omega)] at K
    refine go_iconst (y := mX11_request) (pc := 16) dX11_request_16 ?_
    refine go_callV3 (y := mX11_request) (pc := 17) (y' := mX11_asking) (kc2 := 0) (ks2 := 0) dX11_request_17 ml_X11_301 ok_X11_asking (show shp 276 = _ from rfl) ⟨_, _, rfl⟩ (by decide) ⟨rfl, rfl, rfl⟩ (by decide) (Nat.le_of_ble_eq_true rfl) rfl (m_asking (d := -1) hm hq (by omega) (z7 σ) (z6 h6) hr hS hC (fun g ν' hν => ?_) (fun g => ?_))
    · skip
      refine go_ireturn (y := mX11_request) (pc := 20) dX11_request_20 rfl ?_
      exact K g ν' hν
    · skip
      refine go_ireturn (y := mX11_request) (pc := 20) dX11_request_20 rfl ?_
      exact K2 g
  · skip
    rw [if_neg (by omega)] at K
    refine go_iconst (y := mX11_request) (pc := 12) dX11_request_12 ?_
    refine go_goto (y := mX11_request) (pc := 13) (tgt := 17) dX11_request_13 (by decide) ?_
    refine go_callV3 (y := mX11_request) (pc := 17) (y' := mX11_asking) (kc2 := 0) (ks2 := 0) dX11_request_17 ml_X11_301 ok_X11_asking (show shp 276 = _ from rfl) ⟨_, _, rfl⟩ (by decide) ⟨rfl, rfl, rfl⟩ (by decide) (Nat.le_of_ble_eq_true rfl) rfl (m_asking (d := 1) hm hq (by omega) (z7 σ) (z6 h6) hr hS hC (fun g ν' hν => ?_) (fun g => ?_))
    · skip
      refine go_ireturn (y := mX11_request) (pc := 20) dX11_request_20 rfl ?_
      exact K g ν' hν
    · skip
      refine go_ireturn (y := mX11_request) (pc := 20) dX11_request_20 rfl ?_
      exact K2 g
/-! rows copied -/
def cpw (σ : Mem) (r o : Nat) (ν : Nat → Int) (k : Nat) : Mem := fun b j => if b = r ∧ o ≤ j ∧ j < o + k then ν (j - o) else σ b j
theorem cpw_0 {σ : Mem} {r o : Nat} {ν : Nat → Int} : cpw σ r o ν 0 = σ := by
  funext b j
  unfold cpw
  rw [if_neg (by omega)]
theorem cpw_s {σ : Mem} {r o : Nat} {ν : Nat → Int} {k : Nat} : wr (cpw σ r o ν k) r (o + k) (ν k) = cpw σ r o ν (k + 1) := by
  funext b j
  unfold wr cpw
  by_cases g : b = r ∧ j = o + k
  · rw [if_pos g, if_pos (by omega), g.2, Nat.add_sub_cancel_left]
  · rw [if_neg g]
    by_cases g2 : b = r ∧ o ≤ j ∧ j < o + k
    · rw [if_pos g2, if_pos (by omega)]
    · rw [if_neg g2, if_neg (by omega)]
theorem cpw_o {σ : Mem} {r o b j : Nat} {ν : Nat → Int} {k : Nat} (h : b ≠ r ∨ j < o ∨ o + k ≤ j) : cpw σ r o ν k b j = σ b j := if_neg (by omega)
theorem cpw_e {σ : Mem} {r o j : Nat} {ν : Nat → Int} {k : Nat} (h : j < k) : cpw σ r o ν k r (o + j) = ν j := by
  unfold cpw
  rw [if_pos ⟨rfl, by omega⟩, Nat.add_sub_cancel_left]
def cpn (ν : Nat → Int) (σ : Mem) (r o k : Nat) : Nat → Int := fun j => if j < k then σ r (o + j) else ν j
theorem cpn_0 {σ : Mem} {r o : Nat} {ν : Nat → Int} : cpn ν σ r o 0 = ν := by
  funext j
  unfold cpn
  rw [if_neg (by omega)]
theorem cpn_s {σ : Mem} {r o : Nat} {ν : Nat → Int} {k : Nat} : wv (cpn ν σ r o k) k (σ r (o + k)) = cpn ν σ r o (k + 1) := by
  funext j
  unfold wv cpn
  by_cases g : j = k
  · rw [if_pos g, if_pos (by omega), g]
  · rw [if_neg g]
    by_cases g2 : j < k
    · rw [if_pos g2, if_pos (by omega)]
    · rw [if_neg g2, if_neg (by omega)]
theorem cpn_e {σ : Mem} {r o k j : Nat} {ν : Nat → Int} (h : j < k) : cpn ν σ r o k j = σ r (o + j) := if_pos h
set_option maxRecDepth 8000 in
set_option maxHeartbeats 4000000 in
theorem m_tries  {Q : Option Value → Mem → Prop} {X : String → Mem → Prop} (K : Q none (md (cpw σ 2 0 ν 418) ν μ)) : mt 289 0 0 0 mX11_tries [.ref 276] Q X (md σ ν μ) := by
  show go 289 0 0 0 mX11_tries Q X 0 [.ref 276, .null] [] _
  have loop : ∀ (n k : Nat), k + n = 418 → go 289 0 0 0 mX11_tries Q X 2 [.ref 276, .int (iI (k : Nat))] [] (md (cpw σ 2 0 ν k) ν μ) := by
    intro n
    induction n using Nat.strongRecOn with
    | _ n ih =>
      intro k hk
      have ih' := ih (n - 1)
      have ew := cpw_s (σ := σ) (r := 2) (o := 0) (ν := ν) (k := k)
      rw [Nat.zero_add] at ew
      refine go_iload_n (y := mX11_tries) (pc := 2) dX11_tries_2 rfl rfl ?_
      refine go_sipush (y := mX11_tries) (pc := 3) dX11_tries_3 (by decide) ?_
      refine go_icmp_ge (y := mX11_tries) (pc := 6) (tgt := 27) dX11_tries_6 (by decide) (by omega) (by omega) (fun h6 => ?_) (fun h6 => ?_)
      · skip
        refine go_return (y := mX11_tries) (pc := 27) dX11_tries_27 rfl ?_
        have e : k = 418 := by omega
        subst e
        exact K
      · skip
        refine go_aload_n (y := mX11_tries) (pc := 9) dX11_tries_9 rfl rfl ?_
        refine go_mref (y := mX11_tries) (pc := 10) dX11_tries_10 fl_X11_13 rfl rfl (by decide) ?_
        refine go_iload_n (y := mX11_tries) (pc := 13) dX11_tries_13 rfl rfl ?_
        refine go_aload_n (y := mX11_tries) (pc := 14) dX11_tries_14 rfl rfl ?_
        refine go_mref (y := mX11_tries) (pc := 15) dX11_tries_15 fl_X11_7 rfl rfl (by decide) ?_
        refine go_iload_n (y := mX11_tries) (pc := 18) dX11_tries_18 rfl rfl ?_
        refine go_nial (y := mX11_tries) (pc := 19) (k := k) dX11_tries_19 (by decide) rfl (by omega) (fun r19 => ?_)
        refine go_mias (y := mX11_tries) (pc := 20) (r := 2) (k := k) dX11_tries_20 (by decide) (by decide) rfl (by decide) rfl (by omega) (by decide) (by omega) ?_
        refine go_iinc (y := mX11_tries) (pc := 21) dX11_tries_21 rfl (by decide) ?_
        refine go_goto (y := mX11_tries) (pc := 24) (tgt := 2) dX11_tries_24 (by decide) ?_
        rw [ew]
        exact ih' (by omega) (k + 1) (by omega)
  have h := loop 418 0 rfl
  rw [cpw_0] at h
  refine go_iconst (y := mX11_tries) (pc := 0) dX11_tries_0 ?_
  refine go_istore_n (y := mX11_tries) (pc := 1) dX11_tries_1 rfl (by decide) ?_
  exact h
set_option maxRecDepth 8000 in
set_option maxHeartbeats 4000000 in
theorem m_back {a : Int} {Q : Option Value → Mem → Prop} {X : String → Mem → Prop} (K : Q (some (.int (iI a))) (md σ (cpn ν σ 2 0 418) μ)) : mt 289 0 0 0 mX11_back [.ref 276, .int (iI a)] Q X (md σ ν μ) := by
  show go 289 0 0 0 mX11_back Q X 0 [.ref 276, .int (iI a), .null] [] _
  have loop : ∀ (n k : Nat), k + n = 418 → go 289 0 0 0 mX11_back Q X 2 [.ref 276, .int (iI a), .int (iI (k : Nat))] [] (md σ (cpn ν σ 2 0 k) μ) := by
    intro n
    induction n using Nat.strongRecOn with
    | _ n ih =>
      intro k hk
      have ih' := ih (n - 1)
      have ew := cpn_s (σ := σ) (r := 2) (o := 0) (ν := ν) (k := k)
      rw [Nat.zero_add] at ew
      refine go_iload_n (y := mX11_back) (pc := 2) dX11_back_2 rfl rfl ?_
      refine go_sipush (y := mX11_back) (pc := 3) dX11_back_3 (by decide) ?_
      refine go_icmp_ge (y := mX11_back) (pc := 6) (tgt := 27) dX11_back_6 (by decide) (by omega) (by omega) (fun h6 => ?_) (fun h6 => ?_)
      · skip
        refine go_iload_n (y := mX11_back) (pc := 27) dX11_back_27 rfl rfl ?_
        refine go_ireturn (y := mX11_back) (pc := 28) dX11_back_28 rfl ?_
        have e : k = 418 := by omega
        subst e
        exact K
      · skip
        refine go_aload_n (y := mX11_back) (pc := 9) dX11_back_9 rfl rfl ?_
        refine go_mref (y := mX11_back) (pc := 10) dX11_back_10 fl_X11_7 rfl rfl (by decide) ?_
        refine go_iload_n (y := mX11_back) (pc := 13) dX11_back_13 rfl rfl ?_
        refine go_aload_n (y := mX11_back) (pc := 14) dX11_back_14 rfl rfl ?_
        refine go_mref (y := mX11_back) (pc := 15) dX11_back_15 fl_X11_13 rfl rfl (by decide) ?_
        refine go_iload_n (y := mX11_back) (pc := 18) dX11_back_18 rfl rfl ?_
        refine go_mial (y := mX11_back) (pc := 19) (r := 2) (k := k) dX11_back_19 (by decide) (by decide) rfl (by decide) rfl (by omega) (by decide) (fun r19 => ?_)
        refine go_nias (y := mX11_back) (pc := 20) (k := k) dX11_back_20 (by decide) rfl (by omega) (by omega) ?_
        refine go_iinc (y := mX11_back) (pc := 21) dX11_back_21 rfl (by decide) ?_
        refine go_goto (y := mX11_back) (pc := 24) (tgt := 2) dX11_back_24 (by decide) ?_
        rw [ew]
        exact ih' (by omega) (k + 1) (by omega)
  have h := loop 418 0 rfl
  rw [cpn_0] at h
  refine go_iconst (y := mX11_back) (pc := 0) dX11_back_0 ?_
  refine go_istore_n (y := mX11_back) (pc := 1) dX11_back_1 rfl (by decide) ?_
  exact h
set_option maxRecDepth 8000 in
set_option maxHeartbeats 4000000 in
theorem m_undo {u : Nat} (hu : σ 0 6 = u) (hu8 : u ≤ 8) {Q : Option Value → Mem → Prop} {X : String → Mem → Prop} (K : ∀ w : Nat, u = w + 1 → Q (some (.int (iI (w : Nat)))) (md (wr (wr σ 0 7 0) 0 6 (w : Nat)) (cpn ν σ 4 (418 * w) 418) μ)) (K2 : u = 0 → Q (some (.int (iI 0))) (md (wr (wr σ 0 7 0) 0 7 1) ν μ)) : mt 289 1 0 0 mX11_undo [.ref 276] Q X (md σ ν μ) := by
  show go 289 1 0 0 mX11_undo Q X 0 [.ref 276, .null] [] _
  have h7 := z7 σ
  have e6 : wr σ 0 7 0 0 6 = u := (wr_ni (by decide)).trans hu
  have loop : ∀ w : Nat, u = w + 1 → ∀ (n k : Nat), k + n = 418 → go 289 1 0 0 mX11_undo Q X 39 [.ref 276, .int (iI (k : Nat))] [] (md (wr (wr σ 0 7 0) 0 6 (w : Nat)) (cpn ν σ 4 (418 * w) k) μ) := by
    intro w hw n
    induction n using Nat.strongRecOn with
    | _ n ih =>
      intro k hk
      have ih' := ih (n - 1)
      have er : ∀ j, wr (wr σ 0 7 0) 0 6 ((w : Nat) : Int) 4 j = σ 4 j := fun j => by rw [wr_na (by decide), wr_na (by decide)]
      have es : wr (wr σ 0 7 0) 0 6 ((w : Nat) : Int) 0 6 = (w : Nat) := wr_s _ _ _ _
      refine go_iload_n (y := mX11_undo) (pc := 39) dX11_undo_39 rfl rfl ?_
      refine go_sipush (y := mX11_undo) (pc := 40) dX11_undo_40 (by decide) ?_
      refine go_icmp_ge (y := mX11_undo) (pc := 43) (tgt := 73) dX11_undo_43 (by decide) (by omega) (by omega) (fun h43 => ?_) (fun h43 => ?_)
      · skip
        refine go_aload_n (y := mX11_undo) (pc := 73) dX11_undo_73 rfl rfl ?_
        refine go_mget (y := mX11_undo) (pc := 74) dX11_undo_74 fl_X11_237 rfl rfl (by decide) (fun r74 => ?_)
        refine go_top (b := ((w : Nat) : Int)) (es) (fun t74 => ?_)
        refine go_ireturn (y := mX11_undo) (pc := 77) dX11_undo_77 rfl ?_
        have e : k = 418 := by omega
        subst e
        exact K w hw
      · skip
        refine go_aload_n (y := mX11_undo) (pc := 46) dX11_undo_46 rfl rfl ?_
        refine go_mref (y := mX11_undo) (pc := 47) dX11_undo_47 fl_X11_7 rfl rfl (by decide) ?_
        refine go_iload_n (y := mX11_undo) (pc := 50) dX11_undo_50 rfl rfl ?_
        refine go_aload_n (y := mX11_undo) (pc := 51) dX11_undo_51 rfl rfl ?_
        refine go_mref (y := mX11_undo) (pc := 52) dX11_undo_52 fl_X11_19 rfl rfl (by decide) ?_
        refine go_sipush (y := mX11_undo) (pc := 55) dX11_undo_55 (by decide) ?_
        refine go_aload_n (y := mX11_undo) (pc := 58) dX11_undo_58 rfl rfl ?_
        refine go_mget (y := mX11_undo) (pc := 59) dX11_undo_59 fl_X11_237 rfl rfl (by decide) (fun r59 => ?_)
        refine go_top (b := ((w : Nat) : Int)) (es) (fun t59 => ?_)
        refine go_imul (y := mX11_undo) (pc := 62) dX11_undo_62 ?_
        refine go_iload_n (y := mX11_undo) (pc := 63) dX11_undo_63 rfl rfl ?_
        refine go_iadd (y := mX11_undo) (pc := 64) dX11_undo_64 ?_
        refine go_mial (y := mX11_undo) (pc := 65) (r := 4) (k := ((418 * w) + k)) dX11_undo_65 (by decide) (by decide) rfl (by decide) (by omega) (by omega) (by decide) (fun r65 => ?_)
        refine go_top (b := σ 4 (418 * w + k)) (er _) (fun t65 => ?_)
        refine go_nias (y := mX11_undo) (pc := 66) (k := k) dX11_undo_66 (by decide) rfl (by omega) (by omega) ?_
        refine go_iinc (y := mX11_undo) (pc := 67) dX11_undo_67 rfl (by decide) ?_
        refine go_goto (y := mX11_undo) (pc := 70) (tgt := 39) dX11_undo_70 (by decide) ?_
        rw [cpn_s]
        exact ih' (by omega) (k + 1) (by omega)
  refine go_aload_n (y := mX11_undo) (pc := 0) dX11_undo_0 rfl rfl ?_
  refine go_iconst (y := mX11_undo) (pc := 1) dX11_undo_1 ?_
  refine go_mput (y := mX11_undo) (pc := 2) dX11_undo_2 fp_X11_83 rfl rfl (by decide) (by omega) ?_
  refine go_aload_n (y := mX11_undo) (pc := 5) dX11_undo_5 rfl rfl ?_
  refine go_aload_n (y := mX11_undo) (pc := 6) dX11_undo_6 rfl rfl ?_
  refine go_mget (y := mX11_undo) (pc := 7) dX11_undo_7 fl_X11_237 rfl rfl (by decide) (fun r7 => ?_)
  refine go_top (b := ((u : Nat) : Int)) (e6) (fun t7 => ?_)
  refine go_if_le (y := mX11_undo) (pc := 10) (tgt := 17) dX11_undo_10 (by decide) (by omega) (fun h10 => ?_) (fun h10 => ?_)
  · skip
    refine go_iconst (y := mX11_undo) (pc := 17) dX11_undo_17 ?_
    refine go_iconst (y := mX11_undo) (pc := 18) dX11_undo_18 ?_
    refine go_callV2 (y := mX11_undo) (pc := 19) (y' := mX11_right) (kc2 := 0) (ks2 := 0) dX11_undo_19 ml_X11_167 ok_X11_right (show shp 276 = _ from rfl) ⟨_, _, rfl⟩ (by decide) ⟨rfl, rfl⟩ (by decide) (Nat.le_of_ble_eq_true rfl) rfl (m_right h7 (by omega) (by decide) (fun v19 e19 g19 => ?_) (fun g19 => ?_))
    · skip
      refine go_if_ne (y := mX11_undo) (pc := 22) (tgt := 27) dX11_undo_22 (by decide) (by omega) (fun h22 => ?_) (fun h22 => ?_)
      · skip
        exact absurd g19 (by decide)
      · skip
        exact absurd g19 (by decide)
    · skip
      refine go_if_ne (y := mX11_undo) (pc := 22) (tgt := 27) dX11_undo_22 (by decide) (by omega) (fun h22 => ?_) (fun h22 => ?_)
      · skip
        exact absurd rfl h22
      · skip
        refine go_iconst (y := mX11_undo) (pc := 25) dX11_undo_25 ?_
        refine go_ireturn (y := mX11_undo) (pc := 26) dX11_undo_26 rfl ?_
        exact K2 (by omega)
  · skip
    refine go_iconst (y := mX11_undo) (pc := 13) dX11_undo_13 ?_
    refine go_goto (y := mX11_undo) (pc := 14) (tgt := 18) dX11_undo_14 (by decide) ?_
    refine go_iconst (y := mX11_undo) (pc := 18) dX11_undo_18 ?_
    refine go_callV2 (y := mX11_undo) (pc := 19) (y' := mX11_right) (kc2 := 0) (ks2 := 0) dX11_undo_19 ml_X11_167 ok_X11_right (show shp 276 = _ from rfl) ⟨_, _, rfl⟩ (by decide) ⟨rfl, rfl⟩ (by decide) (Nat.le_of_ble_eq_true rfl) rfl (m_right h7 (by omega) (by decide) (fun v19 e19 g19 => ?_) (fun g19 => ?_))
    · skip
      refine go_if_ne (y := mX11_undo) (pc := 22) (tgt := 27) dX11_undo_22 (by decide) (by omega) (fun h22 => ?_) (fun h22 => ?_)
      · skip
        obtain ⟨w, hw⟩ : ∃ w, u = w + 1 := ⟨u - 1, by omega⟩
        have h := loop w hw 418 0 rfl
        rw [cpn_0, show ((w : Nat) : Int) = (u : Int) - 1 by omega] at h
        refine go_aload_n (y := mX11_undo) (pc := 27) dX11_undo_27 rfl rfl ?_
        refine go_dup (y := mX11_undo) (pc := 28) dX11_undo_28 rfl ?_
        refine go_mget (y := mX11_undo) (pc := 29) dX11_undo_29 fl_X11_237 rfl rfl (by decide) (fun r29 => ?_)
        refine go_top (b := ((u : Nat) : Int)) (e6) (fun t29 => ?_)
        refine go_iconst (y := mX11_undo) (pc := 32) dX11_undo_32 ?_
        refine go_isub (y := mX11_undo) (pc := 33) dX11_undo_33 ?_
        refine go_mput (y := mX11_undo) (pc := 34) dX11_undo_34 fp_X11_237 rfl rfl (by decide) (by omega) ?_
        refine go_iconst (y := mX11_undo) (pc := 37) dX11_undo_37 ?_
        refine go_istore_n (y := mX11_undo) (pc := 38) dX11_undo_38 rfl (by decide) ?_
        exact h
      · skip
        exact absurd h22 (by omega)
    · skip
      exact absurd g19 (by decide)
set_option maxRecDepth 8000 in
set_option maxHeartbeats 4000000 in
theorem m_save {m : Int} (hm : rng m) {Q : Option Value → Mem → Prop} {X : String → Mem → Prop} (K : ∀ q : Nat, m = q → q < 2 → Q (some (.int (iI (ν 7)))) (md (wr (cpw (wr σ 0 7 0) 5 (418 * q) ν 418) 6 q 1) ν μ)) (K2 : ¬ (0 ≤ m ∧ m < 2) → Q (some (.int (iI 0))) (md (wr (wr σ 0 7 0) 0 7 1) ν μ)) : mt 289 1 0 0 mX11_save [.ref 276, .int (iI m)] Q X (md σ ν μ) := by
  show go 289 1 0 0 mX11_save Q X 0 [.ref 276, .int (iI m), .null] [] _
  have h7 := z7 σ
  by_cases g : 0 ≤ m ∧ m < 2
  · obtain ⟨q, rfl⟩ := Int.eq_ofNat_of_zero_le g.1
    have g2 : q < 2 := by omega
    have loop : ∀ (n k : Nat), k + n = 418 → go 289 1 0 0 mX11_save Q X 23 [.ref 276, .int (iI (q : Nat)), .int (iI (k : Nat))] [] (md (cpw (wr σ 0 7 0) 5 (418 * q) ν k) ν μ) := by
      intro n
      induction n using Nat.strongRecOn with
      | _ n ih =>
        intro k hk
        have ih' := ih (n - 1)
        refine go_iload_n (y := mX11_save) (pc := 23) dX11_save_23 rfl rfl ?_
        refine go_sipush (y := mX11_save) (pc := 24) dX11_save_24 (by decide) ?_
        refine go_icmp_ge (y := mX11_save) (pc := 27) (tgt := 54) dX11_save_27 (by decide) (by omega) (by omega) (fun h27 => ?_) (fun h27 => ?_)
        · skip
          have e : k = 418 := by omega
          subst e
          refine go_aload_n (y := mX11_save) (pc := 54) dX11_save_54 rfl rfl ?_
          refine go_mref (y := mX11_save) (pc := 55) dX11_save_55 fl_X11_25 rfl rfl (by decide) ?_
          refine go_iload_n (y := mX11_save) (pc := 58) dX11_save_58 rfl rfl ?_
          refine go_iconst (y := mX11_save) (pc := 59) dX11_save_59 ?_
          refine go_mzas (y := mX11_save) (pc := 60) (r := 6) (k := q) dX11_save_60 (by decide) (by decide) rfl (by decide) rfl (by omega) (by decide) (by omega) ?_
          refine go_aload_n (y := mX11_save) (pc := 61) dX11_save_61 rfl rfl ?_
          refine go_mref (y := mX11_save) (pc := 62) dX11_save_62 fl_X11_7 rfl rfl (by decide) ?_
          refine go_bipush (y := mX11_save) (pc := 65) dX11_save_65 (by decide) ?_
          refine go_nial (y := mX11_save) (pc := 67) (k := 7) dX11_save_67 (by decide) rfl (by omega) (fun r67 => ?_)
          refine go_ireturn (y := mX11_save) (pc := 68) dX11_save_68 rfl ?_
          exact K q rfl g2
        · skip
          refine go_aload_n (y := mX11_save) (pc := 30) dX11_save_30 rfl rfl ?_
          refine go_mref (y := mX11_save) (pc := 31) dX11_save_31 fl_X11_22 rfl rfl (by decide) ?_
          refine go_sipush (y := mX11_save) (pc := 34) dX11_save_34 (by decide) ?_
          refine go_iload_n (y := mX11_save) (pc := 37) dX11_save_37 rfl rfl ?_
          refine go_imul (y := mX11_save) (pc := 38) dX11_save_38 ?_
          refine go_iload_n (y := mX11_save) (pc := 39) dX11_save_39 rfl rfl ?_
          refine go_iadd (y := mX11_save) (pc := 40) dX11_save_40 ?_
          refine go_aload_n (y := mX11_save) (pc := 41) dX11_save_41 rfl rfl ?_
          refine go_mref (y := mX11_save) (pc := 42) dX11_save_42 fl_X11_7 rfl rfl (by decide) ?_
          refine go_iload_n (y := mX11_save) (pc := 45) dX11_save_45 rfl rfl ?_
          refine go_nial (y := mX11_save) (pc := 46) (k := k) dX11_save_46 (by decide) rfl (by omega) (fun r46 => ?_)
          refine go_mias (y := mX11_save) (pc := 47) (r := 5) (k := ((418 * q) + k)) dX11_save_47 (by decide) (by decide) rfl (by decide) (by omega) (by omega) (by decide) (by omega) ?_
          refine go_iinc (y := mX11_save) (pc := 48) dX11_save_48 rfl (by decide) ?_
          refine go_goto (y := mX11_save) (pc := 51) (tgt := 23) dX11_save_51 (by decide) ?_
          rw [cpw_s]
          exact ih' (by omega) (k + 1) (by omega)
    have h := loop 418 0 rfl
    rw [cpw_0] at h
    refine go_aload_n (y := mX11_save) (pc := 0) dX11_save_0 rfl rfl ?_
    refine go_iconst (y := mX11_save) (pc := 1) dX11_save_1 ?_
    refine go_mput (y := mX11_save) (pc := 2) dX11_save_2 fp_X11_83 rfl rfl (by decide) (by omega) ?_
    refine go_aload_n (y := mX11_save) (pc := 5) dX11_save_5 rfl rfl ?_
    refine go_iload_n (y := mX11_save) (pc := 6) dX11_save_6 rfl rfl ?_
    refine go_iconst (y := mX11_save) (pc := 7) dX11_save_7 ?_
    refine go_iconst (y := mX11_save) (pc := 8) dX11_save_8 ?_
    refine go_callS3 (y := mX11_save) (pc := 9) (y' := mX11_in) (kc2 := 0) (ks2 := 0) dX11_save_9 ml_X11_86 ok_X11_in ⟨rfl, rfl, rfl⟩ (by decide) (Nat.le_of_ble_eq_true rfl) rfl (m_in (by omega) (by omega) (by omega) (fun v9 e9 b9 => ?_))
    refine go_iconst (y := mX11_save) (pc := 12) dX11_save_12 ?_
    refine go_callV2 (y := mX11_save) (pc := 13) (y' := mX11_right) (kc2 := 0) (ks2 := 0) dX11_save_13 ml_X11_167 ok_X11_right (show shp 276 = _ from rfl) ⟨_, _, rfl⟩ (by decide) ⟨rfl, rfl⟩ (by decide) (Nat.le_of_ble_eq_true rfl) rfl (m_right h7 (by omega) (by decide) (fun v13 e13 g13 => ?_) (fun g13 => ?_))
    · skip
      refine go_if_ne (y := mX11_save) (pc := 16) (tgt := 21) dX11_save_16 (by decide) (by omega) (fun h16 => ?_) (fun h16 => ?_)
      · skip
        refine go_iconst (y := mX11_save) (pc := 21) dX11_save_21 ?_
        refine go_istore_n (y := mX11_save) (pc := 22) dX11_save_22 rfl (by decide) ?_
        exact h
      · skip
        exact absurd h16 (by omega)
    · skip
      exact absurd (show 0 ≤ (q : Int) ∧ (q : Int) ≤ 1 by omega) (bI_0 e9 g13)
  · skip
    refine go_aload_n (y := mX11_save) (pc := 0) dX11_save_0 rfl rfl ?_
    refine go_iconst (y := mX11_save) (pc := 1) dX11_save_1 ?_
    refine go_mput (y := mX11_save) (pc := 2) dX11_save_2 fp_X11_83 rfl rfl (by decide) (by omega) ?_
    refine go_aload_n (y := mX11_save) (pc := 5) dX11_save_5 rfl rfl ?_
    refine go_iload_n (y := mX11_save) (pc := 6) dX11_save_6 rfl rfl ?_
    refine go_iconst (y := mX11_save) (pc := 7) dX11_save_7 ?_
    refine go_iconst (y := mX11_save) (pc := 8) dX11_save_8 ?_
    refine go_callS3 (y := mX11_save) (pc := 9) (y' := mX11_in) (kc2 := 0) (ks2 := 0) dX11_save_9 ml_X11_86 ok_X11_in ⟨rfl, rfl, rfl⟩ (by decide) (Nat.le_of_ble_eq_true rfl) rfl (m_in (by omega) (by omega) (by omega) (fun v9 e9 b9 => ?_))
    refine go_iconst (y := mX11_save) (pc := 12) dX11_save_12 ?_
    refine go_callV2 (y := mX11_save) (pc := 13) (y' := mX11_right) (kc2 := 0) (ks2 := 0) dX11_save_13 ml_X11_167 ok_X11_right (show shp 276 = _ from rfl) ⟨_, _, rfl⟩ (by decide) ⟨rfl, rfl⟩ (by decide) (Nat.le_of_ble_eq_true rfl) rfl (m_right h7 (by omega) (by decide) (fun v13 e13 g13 => ?_) (fun g13 => ?_))
    · skip
      exact absurd (bI_1 e9 (by omega)) (by omega)
    · skip
      refine go_if_ne (y := mX11_save) (pc := 16) (tgt := 21) dX11_save_16 (by decide) (by omega) (fun h16 => ?_) (fun h16 => ?_)
      · skip
        exact absurd rfl h16
      · skip
        refine go_iconst (y := mX11_save) (pc := 19) dX11_save_19 ?_
        refine go_ireturn (y := mX11_save) (pc := 20) dX11_save_20 rfl ?_
        exact K2 g
set_option maxRecDepth 8000 in
set_option maxHeartbeats 4000000 in
theorem m_restore {m : Int} (hm : rng m) (h01 : ∀ q : Nat, q < 2 → σ 6 q = 0 ∨ σ 6 q = 1) {Q : Option Value → Mem → Prop} {X : String → Mem → Prop} (K : ∀ q : Nat, m = q → q < 2 → σ 6 q = 1 → Q (some (.int (iI (σ 5 (418 * q + 7))))) (md (wr (wr σ 0 7 0) 0 6 0) (cpn ν σ 5 (418 * q) 418) μ)) (K2 : ¬ (0 ≤ m ∧ m < 2) → Q (some (.int (iI 0))) (md (wr (wr σ 0 7 0) 0 7 1) ν μ)) (K3 : ∀ q : Nat, m = q → q < 2 → σ 6 q = 0 → Q (some (.int (iI 0))) (md (wr (wr σ 0 7 0) 0 7 2) ν μ)) : mt 289 1 0 0 mX11_restore [.ref 276, .int (iI m)] Q X (md σ ν μ) := by
  show go 289 1 0 0 mX11_restore Q X 0 [.ref 276, .int (iI m), .null] [] _
  have h7 := z7 σ
  by_cases g : 0 ≤ m ∧ m < 2
  · obtain ⟨q, rfl⟩ := Int.eq_ofNat_of_zero_le g.1
    have g2 : q < 2 := by omega
    have hq01 := h01 q g2
    have e6 : wr σ 0 7 0 6 q = σ 6 q := wr_na (by decide)
    have loop : σ 6 q = 1 → ∀ (n k : Nat), k + n = 418 → go 289 1 0 0 mX11_restore Q X 37 [.ref 276, .int (iI (q : Nat)), .int (iI (k : Nat))] [] (md (wr σ 0 7 0) (cpn ν σ 5 (418 * q) k) μ) := by
      intro h61 n
      induction n using Nat.strongRecOn with
      | _ n ih =>
        intro k hk
        have ih' := ih (n - 1)
        have er : ∀ j, wr σ 0 7 0 5 j = σ 5 j := fun j => wr_na (by decide)
        refine go_iload_n (y := mX11_restore) (pc := 37) dX11_restore_37 rfl rfl ?_
        refine go_sipush (y := mX11_restore) (pc := 38) dX11_restore_38 (by decide) ?_
        refine go_icmp_ge (y := mX11_restore) (pc := 41) (tgt := 68) dX11_restore_41 (by decide) (by omega) (by omega) (fun h41 => ?_) (fun h41 => ?_)
        · skip
          have e : k = 418 := by omega
          subst e
          refine go_aload_n (y := mX11_restore) (pc := 68) dX11_restore_68 rfl rfl ?_
          refine go_iconst (y := mX11_restore) (pc := 69) dX11_restore_69 ?_
          refine go_mput (y := mX11_restore) (pc := 70) dX11_restore_70 fp_X11_237 rfl rfl (by decide) (by omega) ?_
          refine go_aload_n (y := mX11_restore) (pc := 73) dX11_restore_73 rfl rfl ?_
          refine go_mref (y := mX11_restore) (pc := 74) dX11_restore_74 fl_X11_7 rfl rfl (by decide) ?_
          refine go_bipush (y := mX11_restore) (pc := 77) dX11_restore_77 (by decide) ?_
          refine go_nial (y := mX11_restore) (pc := 79) (k := 7) dX11_restore_79 (by decide) rfl (by omega) (fun r79 => ?_)
          refine go_top (b := σ 5 (418 * q + 7)) ((cpn_e (by decide))) (fun t79 => ?_)
          refine go_ireturn (y := mX11_restore) (pc := 80) dX11_restore_80 rfl ?_
          exact K q rfl g2 h61
        · skip
          refine go_aload_n (y := mX11_restore) (pc := 44) dX11_restore_44 rfl rfl ?_
          refine go_mref (y := mX11_restore) (pc := 45) dX11_restore_45 fl_X11_7 rfl rfl (by decide) ?_
          refine go_iload_n (y := mX11_restore) (pc := 48) dX11_restore_48 rfl rfl ?_
          refine go_aload_n (y := mX11_restore) (pc := 49) dX11_restore_49 rfl rfl ?_
          refine go_mref (y := mX11_restore) (pc := 50) dX11_restore_50 fl_X11_22 rfl rfl (by decide) ?_
          refine go_sipush (y := mX11_restore) (pc := 53) dX11_restore_53 (by decide) ?_
          refine go_iload_n (y := mX11_restore) (pc := 56) dX11_restore_56 rfl rfl ?_
          refine go_imul (y := mX11_restore) (pc := 57) dX11_restore_57 ?_
          refine go_iload_n (y := mX11_restore) (pc := 58) dX11_restore_58 rfl rfl ?_
          refine go_iadd (y := mX11_restore) (pc := 59) dX11_restore_59 ?_
          refine go_mial (y := mX11_restore) (pc := 60) (r := 5) (k := ((418 * q) + k)) dX11_restore_60 (by decide) (by decide) rfl (by decide) (by omega) (by omega) (by decide) (fun r60 => ?_)
          refine go_top (b := σ 5 (418 * q + k)) (er _) (fun t60 => ?_)
          refine go_nias (y := mX11_restore) (pc := 61) (k := k) dX11_restore_61 (by decide) rfl (by omega) (by omega) ?_
          refine go_iinc (y := mX11_restore) (pc := 62) dX11_restore_62 rfl (by decide) ?_
          refine go_goto (y := mX11_restore) (pc := 65) (tgt := 37) dX11_restore_65 (by decide) ?_
          rw [cpn_s]
          exact ih' (by omega) (k + 1) (by omega)
    refine go_aload_n (y := mX11_restore) (pc := 0) dX11_restore_0 rfl rfl ?_
    refine go_iconst (y := mX11_restore) (pc := 1) dX11_restore_1 ?_
    refine go_mput (y := mX11_restore) (pc := 2) dX11_restore_2 fp_X11_83 rfl rfl (by decide) (by omega) ?_
    refine go_aload_n (y := mX11_restore) (pc := 5) dX11_restore_5 rfl rfl ?_
    refine go_iload_n (y := mX11_restore) (pc := 6) dX11_restore_6 rfl rfl ?_
    refine go_iconst (y := mX11_restore) (pc := 7) dX11_restore_7 ?_
    refine go_iconst (y := mX11_restore) (pc := 8) dX11_restore_8 ?_
    refine go_callS3 (y := mX11_restore) (pc := 9) (y' := mX11_in) (kc2 := 0) (ks2 := 0) dX11_restore_9 ml_X11_86 ok_X11_in ⟨rfl, rfl, rfl⟩ (by decide) (Nat.le_of_ble_eq_true rfl) rfl (m_in (by omega) (by omega) (by omega) (fun v9 e9 b9 => ?_))
    refine go_iconst (y := mX11_restore) (pc := 12) dX11_restore_12 ?_
    refine go_callV2 (y := mX11_restore) (pc := 13) (y' := mX11_right) (kc2 := 0) (ks2 := 0) dX11_restore_13 ml_X11_167 ok_X11_right (show shp 276 = _ from rfl) ⟨_, _, rfl⟩ (by decide) ⟨rfl, rfl⟩ (by decide) (Nat.le_of_ble_eq_true rfl) rfl (m_right h7 (by omega) (by decide) (fun v13 e13 g13 => ?_) (fun g13 => ?_))
    · skip
      refine go_if_eq (y := mX11_restore) (pc := 16) (tgt := 33) dX11_restore_16 (by decide) (by omega) (fun h16 => ?_) (fun h16 => ?_)
      · skip
        exact absurd h16 (by omega)
      · skip
        refine go_aload_n (y := mX11_restore) (pc := 19) dX11_restore_19 rfl rfl ?_
        refine go_aload_n (y := mX11_restore) (pc := 20) dX11_restore_20 rfl rfl ?_
        refine go_mref (y := mX11_restore) (pc := 21) dX11_restore_21 fl_X11_25 rfl rfl (by decide) ?_
        refine go_iload_n (y := mX11_restore) (pc := 24) dX11_restore_24 rfl rfl ?_
        refine go_mzal (y := mX11_restore) (pc := 25) (r := 6) (k := q) dX11_restore_25 (by decide) (by decide) rfl (by decide) rfl (by omega) (by decide) (fun r25 => ?_)
        refine go_top (b := σ 6 q) (e6) (fun t25 => ?_)
        refine go_iconst (y := mX11_restore) (pc := 26) dX11_restore_26 ?_
        refine go_callV2 (y := mX11_restore) (pc := 27) (y' := mX11_right) (kc2 := 0) (ks2 := 0) dX11_restore_27 ml_X11_167 ok_X11_right (show shp 276 = _ from rfl) ⟨_, _, rfl⟩ (by decide) ⟨rfl, rfl⟩ (by decide) (Nat.le_of_ble_eq_true rfl) rfl (m_right h7 (by omega) (by decide) (fun v27 e27 g27 => ?_) (fun g27 => ?_))
        · skip
          refine go_if_ne (y := mX11_restore) (pc := 30) (tgt := 35) dX11_restore_30 (by decide) (by omega) (fun h30 => ?_) (fun h30 => ?_)
          · skip
            have h := loop (by omega) 418 0 rfl
            rw [cpn_0] at h
            refine go_iconst (y := mX11_restore) (pc := 35) dX11_restore_35 ?_
            refine go_istore_n (y := mX11_restore) (pc := 36) dX11_restore_36 rfl (by decide) ?_
            exact h
          · skip
            exact absurd h30 (by omega)
        · skip
          refine go_if_ne (y := mX11_restore) (pc := 30) (tgt := 35) dX11_restore_30 (by decide) (by omega) (fun h30 => ?_) (fun h30 => ?_)
          · skip
            exact absurd rfl h30
          · skip
            refine go_iconst (y := mX11_restore) (pc := 33) dX11_restore_33 ?_
            refine go_ireturn (y := mX11_restore) (pc := 34) dX11_restore_34 rfl ?_
            exact K3 q rfl g2 (by omega)
    · skip
      exact absurd (show 0 ≤ (q : Int) ∧ (q : Int) ≤ 1 by omega) (bI_0 e9 g13)
  · skip
    refine go_aload_n (y := mX11_restore) (pc := 0) dX11_restore_0 rfl rfl ?_
    refine go_iconst (y := mX11_restore) (pc := 1) dX11_restore_1 ?_
    refine go_mput (y := mX11_restore) (pc := 2) dX11_restore_2 fp_X11_83 rfl rfl (by decide) (by omega) ?_
    refine go_aload_n (y := mX11_restore) (pc := 5) dX11_restore_5 rfl rfl ?_
    refine go_iload_n (y := mX11_restore) (pc := 6) dX11_restore_6 rfl rfl ?_
    refine go_iconst (y := mX11_restore) (pc := 7) dX11_restore_7 ?_
    refine go_iconst (y := mX11_restore) (pc := 8) dX11_restore_8 ?_
    refine go_callS3 (y := mX11_restore) (pc := 9) (y' := mX11_in) (kc2 := 0) (ks2 := 0) dX11_restore_9 ml_X11_86 ok_X11_in ⟨rfl, rfl, rfl⟩ (by decide) (Nat.le_of_ble_eq_true rfl) rfl (m_in (by omega) (by omega) (by omega) (fun v9 e9 b9 => ?_))
    refine go_iconst (y := mX11_restore) (pc := 12) dX11_restore_12 ?_
    refine go_callV2 (y := mX11_restore) (pc := 13) (y' := mX11_right) (kc2 := 0) (ks2 := 0) dX11_restore_13 ml_X11_167 ok_X11_right (show shp 276 = _ from rfl) ⟨_, _, rfl⟩ (by decide) ⟨rfl, rfl⟩ (by decide) (Nat.le_of_ble_eq_true rfl) rfl (m_right h7 (by omega) (by decide) (fun v13 e13 g13 => ?_) (fun g13 => ?_))
    · skip
      exact absurd (bI_1 e9 (by omega)) (by omega)
    · skip
      refine go_if_eq (y := mX11_restore) (pc := 16) (tgt := 33) dX11_restore_16 (by decide) (by omega) (fun h16 => ?_) (fun h16 => ?_)
      · skip
        refine go_iconst (y := mX11_restore) (pc := 33) dX11_restore_33 ?_
        refine go_ireturn (y := mX11_restore) (pc := 34) dX11_restore_34 rfl ?_
        exact K2 g
      · skip
        exact absurd rfl h16
set_option maxRecDepth 8000 in
set_option maxHeartbeats 4000000 in
theorem m_leaning {m q : Int} (hm : rng m) (hq : rng q) (hr : rel S s ν) (hS : wfS S) (hC : wfC S s) {Q : Option Value → Mem → Prop} {X : String → Mem → Prop} (K : ∀ k j : Nat, m = k → q = j → (k : Int) < S 0 7 → (j : Int) < s 5 0 → Q (some (.int (iI (ln s k j)))) (md (wr σ 0 7 0) ν μ)) (K2 : ¬ ((0 ≤ m ∧ m < S 0 7) ∧ (0 ≤ q ∧ q < s 5 0)) → Q (some (.int (iI 0))) (md (wr (wr σ 0 7 0) 0 7 1) ν μ)) : mt 289 2 0 0 mX11_leaning [.ref 276, .int (iI m), .int (iI q)] Q X (md σ ν μ) := by
  show go 289 2 0 0 mX11_leaning Q X 0 [.ref 276, .int (iI m), .int (iI q)] [] _
  obtain ⟨n1, n12, c1, c4⟩ := wf_n hS
  obtain ⟨q0, q16, r0, r12⟩ := wf_r hS hC
  have h7 := z7 σ
  have J28 : ∀ a : Int, (a = 0 ∨ a = 1) → (a = 1 ↔ ((0 ≤ m ∧ m < S 0 7) ∧ (0 ≤ q ∧ q < s 5 0))) → go 289 2 0 0 mX11_leaning Q X 27 [.ref 276, .int (iI m), .int (iI q)] [.int (iI a), .ref 276] (md (wr σ 0 7 0) ν μ) := by
    intro a ga ha
    by_cases g : (0 ≤ m ∧ m < S 0 7) ∧ (0 ≤ q ∧ q < s 5 0)
    · obtain ⟨k, rfl⟩ := Int.eq_ofNat_of_zero_le g.1.1
      obtain ⟨j, rfl⟩ := Int.eq_ofNat_of_zero_le g.2.1
      have gk := g.1.2
      have gj := g.2.2
      have ga1 := ha.mpr g
      refine go_iconst (y := mX11_leaning) (pc := 27) dX11_leaning_27 ?_
      refine go_callV2 (y := mX11_leaning) (pc := 28) (y' := mX11_right) (kc2 := 0) (ks2 := 0) dX11_leaning_28 ml_X11_167 ok_X11_right (show shp 276 = _ from rfl) ⟨_, _, rfl⟩ (by decide) ⟨rfl, rfl⟩ (by decide) (Nat.le_of_ble_eq_true rfl) rfl (m_right h7 (by omega) (by decide) (fun v28 e28 g28 => ?_) (fun g28 => ?_))
      · skip
        refine go_if_eq (y := mX11_leaning) (pc := 31) (tgt := 43) dX11_leaning_31 (by decide) (by omega) (fun h31 => ?_) (fun h31 => ?_)
        · skip
          exact absurd h31 (by omega)
        · skip
          refine go_aload_n (y := mX11_leaning) (pc := 34) dX11_leaning_34 rfl rfl ?_
          refine go_iload_n (y := mX11_leaning) (pc := 35) dX11_leaning_35 rfl rfl ?_
          refine go_iload_n (y := mX11_leaning) (pc := 36) dX11_leaning_36 rfl rfl ?_
          refine go_callV2 (y := mX11_leaning) (pc := 37) (y' := mX11_leans) (kc2 := 0) (ks2 := 0) dX11_leaning_37 ml_X11_114 ok_X11_leans (show shp 276 = _ from rfl) ⟨_, _, rfl⟩ (by decide) ⟨rfl, rfl⟩ (by decide) (Nat.le_of_ble_eq_true rfl) rfl (m_leans (m := k) (q := j) (by omega) (by omega) (fun v37 e37 r37 => ?_))
          refine go_goto (y := mX11_leaning) (pc := 40) (tgt := 44) dX11_leaning_40 (by decide) ?_
          refine go_ireturn (y := mX11_leaning) (pc := 44) dX11_leaning_44 rfl ?_
          rw [e37.trans (rqN hr gj gk)]
          exact K k j rfl rfl gk gj
      · skip
        exact absurd g28 (by omega)
    · have ga0 : a = 0 := by
        rcases ga with h9 | h9
        · exact h9
        · exact absurd (ha.mp h9) g
      refine go_iconst (y := mX11_leaning) (pc := 27) dX11_leaning_27 ?_
      refine go_callV2 (y := mX11_leaning) (pc := 28) (y' := mX11_right) (kc2 := 0) (ks2 := 0) dX11_leaning_28 ml_X11_167 ok_X11_right (show shp 276 = _ from rfl) ⟨_, _, rfl⟩ (by decide) ⟨rfl, rfl⟩ (by decide) (Nat.le_of_ble_eq_true rfl) rfl (m_right h7 (by omega) (by decide) (fun v28 e28 g28 => ?_) (fun g28 => ?_))
      · skip
        exact absurd g28 (by omega)
      · skip
        refine go_if_eq (y := mX11_leaning) (pc := 31) (tgt := 43) dX11_leaning_31 (by decide) (by omega) (fun h31 => ?_) (fun h31 => ?_)
        · skip
          refine go_iconst (y := mX11_leaning) (pc := 43) dX11_leaning_43 ?_
          refine go_ireturn (y := mX11_leaning) (pc := 44) dX11_leaning_44 rfl ?_
          exact K2 g
        · skip
          exact absurd rfl h31
  refine go_aload_n (y := mX11_leaning) (pc := 0) dX11_leaning_0 rfl rfl ?_
  refine go_iconst (y := mX11_leaning) (pc := 1) dX11_leaning_1 ?_
  refine go_mput (y := mX11_leaning) (pc := 2) dX11_leaning_2 fp_X11_83 rfl rfl (by decide) (by omega) ?_
  refine go_aload_n (y := mX11_leaning) (pc := 5) dX11_leaning_5 rfl rfl ?_
  refine go_aload_n (y := mX11_leaning) (pc := 6) dX11_leaning_6 rfl rfl ?_
  refine go_iload_n (y := mX11_leaning) (pc := 7) dX11_leaning_7 rfl rfl ?_
  refine go_callV1 (y := mX11_leaning) (pc := 8) (y' := mX11_isMember) (kc2 := 0) (ks2 := 0) dX11_leaning_8 ml_X11_339 ok_X11_isMember (show shp 276 = _ from rfl) ⟨_, _, rfl⟩ (by decide) rfl (by decide) (Nat.le_of_ble_eq_true rfl) rfl (m_isMember (by omega) hr hS (fun v8 e8 b8 => ?_))
  refine go_if_eq (y := mX11_leaning) (pc := 11) (tgt := 26) dX11_leaning_11 (by decide) (by omega) (fun h11 => ?_) (fun h11 => ?_)
  · skip
    have g1 := bI_0 e8 h11
    refine go_iconst (y := mX11_leaning) (pc := 26) dX11_leaning_26 ?_
    exact J28 0 (by omega) ⟨fun h9 => absurd h9 (by decide), fun h9 => absurd h9.1 g1⟩
  · skip
    have g1 := bI_1 e8 h11
    refine go_aload_n (y := mX11_leaning) (pc := 14) dX11_leaning_14 rfl rfl ?_
    refine go_iload_n (y := mX11_leaning) (pc := 15) dX11_leaning_15 rfl rfl ?_
    refine go_callV1 (y := mX11_leaning) (pc := 16) (y' := mX11_isMotion) (kc2 := 0) (ks2 := 0) dX11_leaning_16 ml_X11_345 ok_X11_isMotion (show shp 276 = _ from rfl) ⟨_, _, rfl⟩ (by decide) rfl (by decide) (Nat.le_of_ble_eq_true rfl) rfl (m_isMotion (by omega) hr hC (fun v16 e16 b16 => ?_))
    refine go_if_eq (y := mX11_leaning) (pc := 19) (tgt := 26) dX11_leaning_19 (by decide) (by omega) (fun h19 => ?_) (fun h19 => ?_)
    · skip
      have g2 := bI_0 e16 h19
      refine go_iconst (y := mX11_leaning) (pc := 26) dX11_leaning_26 ?_
      exact J28 0 (by omega) ⟨fun h9 => absurd h9 (by decide), fun h9 => absurd h9.2 g2⟩
    · skip
      have g2 := bI_1 e16 h19
      refine go_iconst (y := mX11_leaning) (pc := 22) dX11_leaning_22 ?_
      refine go_goto (y := mX11_leaning) (pc := 23) (tgt := 27) dX11_leaning_23 (by decide) ?_
      exact J28 1 (by omega) ⟨fun _ => ⟨g1, g2⟩, fun _ => rfl⟩
end MPub
