/-! READINGS over any memory -/
section Raw
variable {z d kc ks : Nat} {y : MI} {Q : Option Value → Mem → Prop} {X : String → Mem → Prop} {μ S s : Mem}
theorem pvw {μ : Mem} : put 20 (vw 20 μ) μ = μ := put_v 20 μ
theorem to_c {as : List Value} (K : mt z d kc ks y as Q X (put 20 (vw 20 μ) μ)) : mt z d kc ks y as Q X μ := by
  rw [pvw] at K
  exact K
theorem q_memberCount (hS : wfS (su μ)) (hC : wfC (su μ) (vw 20 μ)) (K : Q (some (.int (iI (su μ 0 7)))) μ) : mt 276 3 0 0 mX10_memberCount [.ref 0] Q X μ :=
  to_c (g_memberCount hS hC (by rw [pvw]; exact K))
theorem q_motionCount (hS : wfS (su μ)) (hC : wfC (su μ) (vw 20 μ)) (K : Q (some (.int (iI ((vw 20 μ) 5 0)))) μ) : mt 276 3 0 0 mX10_motionCount [.ref 0] Q X μ :=
  to_c (g_motionCount hS hC (by rw [pvw]; exact K))
theorem q_chairCount (hS : wfS (su μ)) (hC : wfC (su μ) (vw 20 μ)) (K : Q (some (.int (iI (su μ 0 0)))) μ) : mt 276 3 0 0 mX10_chairCount [.ref 0] Q X μ :=
  to_c (g_chairCount hS hC (by rw [pvw]; exact K))
theorem q_minute (hS : wfS (su μ)) (hC : wfC (su μ) (vw 20 μ)) (K : Q (some (.int (iI ((vw 20 μ) 0 5)))) μ) : mt 276 3 0 0 mX10_minute [.ref 0] Q X μ :=
  to_c (g_minute hS hC (by rw [pvw]; exact K))
theorem q_freeMirrors (hS : wfS (su μ)) (hC : wfC (su μ) (vw 20 μ)) (K : Q (some (.int (iI (frm (su μ) (vw 20 μ))))) μ) : mt 276 3 0 0 mX10_freeMirrors [.ref 0] Q X μ :=
  to_c (g_freeMirrors hS hC (by rw [pvw]; exact K))
theorem q_ranking (hS : wfS (su μ)) (hC : wfC (su μ) (vw 20 μ)) (K : Q (some (.int (iI ((vw 20 μ) 0 6)))) μ) : mt 276 3 0 0 mX10_ranking [.ref 0] Q X μ :=
  to_c (g_ranking hS hC (by rw [pvw]; exact K))
theorem q_requestCount (hS : wfS (su μ)) (hC : wfC (su μ) (vw 20 μ)) (K : Q (some (.int (iI ((vw 20 μ) 11 0)))) μ) : mt 276 3 0 0 mX10_requestCount [.ref 0] Q X μ :=
  to_c (g_requestCount hS hC (by rw [pvw]; exact K))
theorem q_tips (hS : wfS (su μ)) (hC : wfC (su μ) (vw 20 μ)) (K : Q (some (.int (iI ((vw 20 μ) 0 7)))) μ) : mt 276 3 0 0 mX10_tips [.ref 0] Q X μ :=
  to_c (g_tips hS hC (by rw [pvw]; exact K))
theorem q_voteCount (hS : wfS (su μ)) (hC : wfC (su μ) (vw 20 μ)) (K : Q (some (.int (iI ((vw 20 μ) 0 8)))) μ) : mt 276 3 0 0 mX10_voteCount [.ref 0] Q X μ :=
  to_c (g_voteCount hS hC (by rw [pvw]; exact K))
theorem q_rebuttalCount (hS : wfS (su μ)) (hC : wfC (su μ) (vw 20 μ)) (K : Q (some (.int (iI ((vw 20 μ) 0 9)))) μ) : mt 276 3 0 0 mX10_rebuttalCount [.ref 0] Q X μ :=
  to_c (g_rebuttalCount hS hC (by rw [pvw]; exact K))
theorem q_contradictions (hS : wfS (su μ)) (hC : wfC (su μ) (vw 20 μ)) (K : Q (some (.int (iI (ctr (su μ) (vw 20 μ))))) μ) : mt 276 3 0 0 mX10_contradictions [.ref 0] Q X μ :=
  to_c (g_contradictions hS hC (by rw [pvw]; exact K))
theorem q_undoCount (hS : wfS (su μ)) (hC : wfC (su μ) (vw 20 μ)) (K : Q (some (.int (iI (μ 62 2)))) μ) : mt 276 3 0 0 mX10_undoCount [.ref 0] Q X μ :=
  to_c (g_undoCount hS hC (by rw [pvw]; exact K))
theorem q_errorPosition (hS : wfS (su μ)) (hC : wfC (su μ) (vw 20 μ)) (K : Q (some (.int (iI (μ 3 5)))) μ) : mt 276 3 0 0 mX10_errorPosition [.ref 0] Q X μ :=
  to_c (g_errorPosition hS hC (by rw [pvw]; exact K))
theorem q_weight (hS : wfS (su μ)) (hC : wfC (su μ) (vw 20 μ)) {k : Nat} (hk : (k : Int) < su μ 0 7) (K : Q (some (.int (iI (su μ 2 k)))) μ) : mt 276 7 0 0 mX10_weight [.ref 0, .int (iI (k : Nat))] Q X μ := by
  have n1 := wf_n hS
  have r1 := wf_r hS hC
  refine to_c (h_weight (by omega) hS hC ⟨by omega, hk⟩ (fun j hj _ => ?_))
  have e : k = j := by omega
  subst e
  rw [pvw]
  exact K
theorem q_purse (hS : wfS (su μ)) (hC : wfC (su μ) (vw 20 μ)) {k : Nat} (hk : (k : Int) < su μ 0 7) (K : Q (some (.int (iI ((vw 20 μ) 2 k)))) μ) : mt 276 7 0 0 mX10_purse [.ref 0, .int (iI (k : Nat))] Q X μ := by
  have n1 := wf_n hS
  have r1 := wf_r hS hC
  refine to_c (h_purse (by omega) hS hC ⟨by omega, hk⟩ (fun j hj _ => ?_))
  have e : k = j := by omega
  subst e
  rw [pvw]
  exact K
theorem q_sharpness (hS : wfS (su μ)) (hC : wfC (su μ) (vw 20 μ)) {k : Nat} (hk : (k : Int) < su μ 0 7) (K : Q (some (.int (iI ((vw 20 μ) 3 k)))) μ) : mt 276 7 0 0 mX10_sharpness [.ref 0, .int (iI (k : Nat))] Q X μ := by
  have n1 := wf_n hS
  have r1 := wf_r hS hC
  refine to_c (h_sharpness (by omega) hS hC ⟨by omega, hk⟩ (fun j hj _ => ?_))
  have e : k = j := by omega
  subst e
  rw [pvw]
  exact K
theorem q_speechesOf (hS : wfS (su μ)) (hC : wfC (su μ) (vw 20 μ)) {k : Nat} (hk : (k : Int) < su μ 0 7) (K : Q (some (.int (iI ((vw 20 μ) 4 k)))) μ) : mt 276 7 0 0 mX10_speechesOf [.ref 0, .int (iI (k : Nat))] Q X μ := by
  have n1 := wf_n hS
  have r1 := wf_r hS hC
  refine to_c (h_speechesOf (by omega) hS hC ⟨by omega, hk⟩ (fun j hj _ => ?_))
  have e : k = j := by omega
  subst e
  rw [pvw]
  exact K
theorem q_chairOf (hS : wfS (su μ)) (hC : wfC (su μ) (vw 20 μ)) {k : Nat} (hk : (k : Int) < su μ 0 7) (K : Q (some (.int (iI (tkn (vw 20 μ) k)))) μ) : mt 276 7 0 0 mX10_chairOf [.ref 0, .int (iI (k : Nat))] Q X μ := by
  have n1 := wf_n hS
  have r1 := wf_r hS hC
  refine to_c (h_chairOf (by omega) hS hC ⟨by omega, hk⟩ (fun j hj _ => ?_))
  have e : k = j := by omega
  subst e
  rw [pvw]
  exact K
theorem q_placeInList (hS : wfS (su μ)) (hC : wfC (su μ) (vw 20 μ)) {k : Nat} (hk : (k : Int) < su μ 0 7) (K : Q (some (.int (iI (plc (vw 20 μ) k)))) μ) : mt 276 7 0 0 mX10_placeInList [.ref 0, .int (iI (k : Nat))] Q X μ := by
  have n1 := wf_n hS
  have r1 := wf_r hS hC
  refine to_c (h_placeInList (by omega) hS hC ⟨by omega, hk⟩ (fun j hj _ => ?_))
  have e : k = j := by omega
  subst e
  rw [pvw]
  exact K
theorem q_proposer (hS : wfS (su μ)) (hC : wfC (su μ) (vw 20 μ)) {k : Nat} (hk : (k : Int) < (vw 20 μ) 5 0) (K : Q (some (.int (iI ((vw 20 μ) 6 k)))) μ) : mt 276 7 0 0 mX10_proposer [.ref 0, .int (iI (k : Nat))] Q X μ := by
  have n1 := wf_n hS
  have r1 := wf_r hS hC
  refine to_c (h_proposer (by omega) hS hC ⟨by omega, hk⟩ (fun j hj _ => ?_))
  have e : k = j := by omega
  subst e
  rw [pvw]
  exact K
theorem q_motionState (hS : wfS (su μ)) (hC : wfC (su μ) (vw 20 μ)) {k : Nat} (hk : (k : Int) < (vw 20 μ) 5 0) (K : Q (some (.int (iI ((vw 20 μ) 7 k)))) μ) : mt 276 7 0 0 mX10_motionState [.ref 0, .int (iI (k : Nat))] Q X μ := by
  have n1 := wf_n hS
  have r1 := wf_r hS hC
  refine to_c (h_motionState (by omega) hS hC ⟨by omega, hk⟩ (fun j hj _ => ?_))
  have e : k = j := by omega
  subst e
  rw [pvw]
  exact K
theorem q_lather (hS : wfS (su μ)) (hC : wfC (su μ) (vw 20 μ)) {k : Nat} (hk : (k : Int) < (vw 20 μ) 5 0) (K : Q (some (.int (iI ((vw 20 μ) 8 k)))) μ) : mt 276 7 0 0 mX10_lather [.ref 0, .int (iI (k : Nat))] Q X μ := by
  have n1 := wf_n hS
  have r1 := wf_r hS hC
  refine to_c (h_lather (by omega) hS hC ⟨by omega, hk⟩ (fun j hj _ => ?_))
  have e : k = j := by omega
  subst e
  rw [pvw]
  exact K
theorem q_weightFor (hS : wfS (su μ)) (hC : wfC (su μ) (vw 20 μ)) {k : Nat} (hk : (k : Int) < (vw 20 μ) 5 0) (K : Q (some (.int (iI (wvt (su μ) (vw 20 μ) k 1)))) μ) : mt 276 7 0 0 mX10_weightFor [.ref 0, .int (iI (k : Nat))] Q X μ := by
  have n1 := wf_n hS
  have r1 := wf_r hS hC
  refine to_c (h_weightFor (by omega) hS hC ⟨by omega, hk⟩ (fun j hj _ => ?_))
  have e : k = j := by omega
  subst e
  rw [pvw]
  exact K
theorem q_weightAgainst (hS : wfS (su μ)) (hC : wfC (su μ) (vw 20 μ)) {k : Nat} (hk : (k : Int) < (vw 20 μ) 5 0) (K : Q (some (.int (iI (wvt (su μ) (vw 20 μ) k (-1))))) μ) : mt 276 7 0 0 mX10_weightAgainst [.ref 0, .int (iI (k : Nat))] Q X μ := by
  have n1 := wf_n hS
  have r1 := wf_r hS hC
  refine to_c (h_weightAgainst (by omega) hS hC ⟨by omega, hk⟩ (fun j hj _ => ?_))
  have e : k = j := by omega
  subst e
  rw [pvw]
  exact K
theorem q_voterCount (hS : wfS (su μ)) (hC : wfC (su μ) (vw 20 μ)) {k : Nat} (hk : (k : Int) < (vw 20 μ) 5 0) (K : Q (some (.int (iI (nvt (su μ) (vw 20 μ) k)))) μ) : mt 276 7 0 0 mX10_voterCount [.ref 0, .int (iI (k : Nat))] Q X μ := by
  have n1 := wf_n hS
  have r1 := wf_r hS hC
  refine to_c (h_voterCount (by omega) hS hC ⟨by omega, hk⟩ (fun j hj _ => ?_))
  have e : k = j := by omega
  subst e
  rw [pvw]
  exact K
theorem q_obstacle (hS : wfS (su μ)) (hC : wfC (su μ) (vw 20 μ)) {k : Nat} (hk : (k : Int) < (vw 20 μ) 5 0) (K : Q (some (.int (iI (obo (su μ) (vw 20 μ) k)))) μ) : mt 276 7 0 0 mX10_obstacle [.ref 0, .int (iI (k : Nat))] Q X μ := by
  have n1 := wf_n hS
  have r1 := wf_r hS hC
  refine to_c (h_obstacle (by omega) hS hC ⟨by omega, hk⟩ (fun j hj _ => ?_))
  have e : k = j := by omega
  subst e
  rw [pvw]
  exact K
theorem q_decisiveVoter (hS : wfS (su μ)) (hC : wfC (su μ) (vw 20 μ)) {k : Nat} (hk : (k : Int) < (vw 20 μ) 5 0) (K : Q (some (.int (iI ((ltk (su μ) (vw 20 μ) k (su μ 0 7).toNat).1)))) μ) : mt 276 7 0 0 mX10_decisiveVoter [.ref 0, .int (iI (k : Nat))] Q X μ := by
  have n1 := wf_n hS
  have r1 := wf_r hS hC
  refine to_c (h_decisiveVoter (by omega) hS hC ⟨by omega, hk⟩ (fun j hj _ => ?_))
  have e : k = j := by omega
  subst e
  rw [pvw]
  exact K
theorem q_speaker (hS : wfS (su μ)) (hC : wfC (su μ) (vw 20 μ)) {k : Nat} (hk : (k : Int) < su μ 0 0) (K : Q (some (.int (iI ((vw 20 μ) 16 k)))) μ) : mt 276 7 0 0 mX10_speaker [.ref 0, .int (iI (k : Nat))] Q X μ := by
  have n1 := wf_n hS
  have r1 := wf_r hS hC
  refine to_c (h_speaker (by omega) hS hC ⟨by omega, hk⟩ (fun j hj _ => ?_))
  have e : k = j := by omega
  subst e
  rw [pvw]
  exact K
theorem q_remainingTime (hS : wfS (su μ)) (hC : wfC (su μ) (vw 20 μ)) {k : Nat} (hk : (k : Int) < su μ 0 0) (K : Q (some (.int (iI ((vw 20 μ) 19 k)))) μ) : mt 276 7 0 0 mX10_remainingTime [.ref 0, .int (iI (k : Nat))] Q X μ := by
  have n1 := wf_n hS
  have r1 := wf_r hS hC
  refine to_c (h_remainingTime (by omega) hS hC ⟨by omega, hk⟩ (fun j hj _ => ?_))
  have e : k = j := by omega
  subst e
  rw [pvw]
  exact K
theorem q_isRebutted (hS : wfS (su μ)) (hC : wfC (su μ) (vw 20 μ)) {k : Nat} (hk : (k : Int) < su μ 0 0) (K : Q (some (.int (iI (bI (0 < (vw 20 μ) 20 k))))) μ) : mt 276 7 0 0 mX10_isRebutted [.ref 0, .int (iI (k : Nat))] Q X μ := by
  have n1 := wf_n hS
  have r1 := wf_r hS hC
  refine to_c (h_isRebutted (by omega) hS hC ⟨by omega, hk⟩ (fun j hj _ => ?_))
  have e : k = j := by omega
  subst e
  rw [pvw]
  exact K
theorem q_wouldPass (hS : wfS (su μ)) (hC : wfC (su μ) (vw 20 μ)) {k : Nat} (hk : (k : Int) < (vw 20 μ) 5 0) (K : Q (some (.int (iI (bI (0 < mgn (su μ) (vw 20 μ) k))))) μ) : mt 276 7 0 0 mX10_wouldPass [.ref 0, .int (iI (k : Nat))] Q X μ := by
  have n1 := wf_n hS
  have r1 := wf_r hS hC
  refine to_c (h_wouldPass (by omega) hS hC ⟨by omega, hk⟩ (fun j hj _ => ?_))
  have e : k = j := by omega
  subst e
  rw [pvw]
  exact K
theorem q_meanLeaning (hS : wfS (su μ)) (hC : wfC (su μ) (vw 20 μ)) {k : Nat} (hk : (k : Int) < (vw 20 μ) 5 0) (K : Q (some (.double (mnl (su μ) (vw 20 μ) k))) μ) : mt 276 7 0 0 mX10_meanLeaning [.ref 0, .int (iI (k : Nat))] Q X μ := by
  have n1 := wf_n hS
  have r1 := wf_r hS hC
  refine to_c (h_meanLeaning (by omega) hS hC ⟨by omega, hk⟩ (fun j hj _ => ?_))
  have e : k = j := by omega
  subst e
  rw [pvw]
  exact K
theorem q_weightShare (hS : wfS (su μ)) (hC : wfC (su μ) (vw 20 μ)) {k : Nat} (hk : (k : Int) < su μ 0 7) (K : Q (some (.float (wsh (su μ) k))) μ) : mt 276 7 0 0 mX10_weightShare [.ref 0, .int (iI (k : Nat))] Q X μ := by
  have n1 := wf_n hS
  have r1 := wf_r hS hC
  refine to_c (h_weightShare (by omega) hS hC ⟨by omega, hk⟩ (fun j hj _ => ?_))
  have e : k = j := by omega
  subst e
  rw [pvw]
  exact K
theorem q_leaning (hS : wfS (su μ)) (hC : wfC (su μ) (vw 20 μ)) {k j : Nat} (hk : (k : Int) < su μ 0 7) (hj : (j : Int) < (vw 20 μ) 5 0) (K : Q (some (.int (iI (ln (vw 20 μ) k j)))) μ) : mt 276 7 0 0 mX10_leaning [.ref 0, .int (iI (k : Nat)), .int (iI (j : Nat))] Q X μ := by
  have n1 := wf_n hS
  have r1 := wf_r hS hC
  refine to_c (h_leaning (by omega) (by omega) hS hC ⟨by omega, hk⟩ ⟨by omega, hj⟩ (fun i l hi hl _ _ => ?_))
  have e : k = i := by omega
  have e2 : j = l := by omega
  subst e e2
  rw [pvw]
  exact K
theorem q_firstBy (hS : wfS (su μ)) (hC : wfC (su μ) (vw 20 μ)) {k : Nat} (hk : k ≤ 3) (K : Q (some (.int (iI (if fsl (su μ) (vw 20 μ) k = -1 then -1 else (vw 20 μ) 12 (fsl (su μ) (vw 20 μ) k).toNat)))) μ) : mt 276 7 0 0 mX10_firstBy [.ref 0, .int (iI (k : Nat))] Q X μ := by
  refine to_c (h_firstBy (by omega) hS hC ⟨by omega, by omega⟩ (fun _ => ?_))
  rw [pvw]
  exact K
theorem q_speechMotion (hS : wfS (su μ)) (hC : wfC (su μ) (vw 20 μ)) {k : Nat} (hk : (k : Int) < su μ 0 0) (h16 : (vw 20 μ) 16 k ≠ -1) (K : Q (some (.int (iI ((vw 20 μ) 17 k)))) μ) : mt 276 7 0 0 mX10_speechMotion [.ref 0, .int (iI (k : Nat))] Q X μ := by
  have n1 := wf_n hS
  refine to_c (h_speechMotion (by omega) hS hC ⟨by omega, hk⟩ (fun j hj => ?_) (fun j hj _ _ => ?_))
  · have e : k = j := by omega
    subst e
    exact h16
  · have e : k = j := by omega
    subst e
    rw [pvw]
    exact K
/-! of Own -/
variable {w : Nat}
theorem p_requests (hw : is_ow w) (hz : w + 17 ≤ z) (hS : wfS S) (hC : wfC S s) (hR : own S s (vw w μ))  (K : Q (some (.int (iI (s 11 0)))) μ) : mt z 0 0 0 mX11_requests [.ref w] Q X μ :=
  mt_ow w (o_requests hw hz hS hC hR (by rw [ow_v]; exact K))
theorem p_listed (hw : is_ow w) (hz : w + 17 ≤ z) (hS : wfS S) (hC : wfC S s) (hR : own S s (vw w μ)) {m : Int} (hm : rng m) (K : ∀ v, v = plc s m → -1 ≤ v ∧ v < 12 → Q (some (.int (iI v))) μ) : mt z 1 0 0 mX11_listed [.ref w, .int (iI m)] Q X μ :=
  mt_ow w (o_listed hw hz hS hC hR hm (fun v e b => by rw [ow_v]; exact K v e b))
theorem p_chair (hw : is_ow w) (hz : w + 17 ≤ z) (hS : wfS S) (hC : wfC S s) (hR : own S s (vw w μ)) {m : Int} (hm : rng m) (hm0 : 0 ≤ m) (K : ∀ v, v = tkn s m → -1 ≤ v ∧ v < 4 → Q (some (.int (iI v))) μ) : mt z 0 0 0 mX11_chair [.ref w, .int (iI m)] Q X μ :=
  mt_ow w (o_chair hw hz hS hC hR hm hm0 (fun v e b => by rw [ow_v]; exact K v e b))
theorem p_free (hw : is_ow w) (hz : w + 17 ≤ z) (hS : wfS S) (hC : wfC S s) (hR : own S s (vw w μ))  (K : Q (some (.int (iI (frm S s)))) μ) : mt z 0 0 0 mX11_free [.ref w] Q X μ :=
  mt_ow w (o_free hw hz hS hC hR (by rw [ow_v]; exact K))
theorem p_isSpoken (hw : is_ow w) (hz : w + 17 ≤ z) (hS : wfS S) (hC : wfC S s) (hR : own S s (vw w μ)) {q : Int} (hq : rng q) (K : ∀ v, v = bI (spa s q) → v = 0 ∨ v = 1 → Q (some (.int (iI v))) μ) : mt z 0 0 0 mX11_isSpoken [.ref w, .int (iI q)] Q X μ :=
  mt_ow w (o_isSpoken hw hz hS hC hR hq (fun v e b => by rw [ow_v]; exact K v e b))
theorem p_side (hw : is_ow w) (hz : w + 17 ≤ z) (hS : wfS S) (hC : wfC S s) (hR : own S s (vw w μ)) {q : Nat} (hq : (q : Int) < s 5 0) {d : Int} (hd : rng d) (K : ∀ v, v = wvt S s q d → 0 ≤ v ∧ v ≤ 108 → Q (some (.int (iI v))) μ) : mt z 2 0 0 mX11_side [.ref w, .int (iI (q : Nat)), .int (iI d)] Q X μ :=
  mt_ow w (o_side hw hz hS hC hR hq hd (fun v e b => by rw [ow_v]; exact K v e b))
theorem p_voters (hw : is_ow w) (hz : w + 17 ≤ z) (hS : wfS S) (hC : wfC S s) (hR : own S s (vw w μ)) {q : Nat} (hq : (q : Int) < s 5 0) (K : ∀ v, v = nvt S s q → 0 ≤ v ∧ v ≤ 12 → Q (some (.int (iI v))) μ) : mt z 2 0 0 mX11_voters [.ref w, .int (iI (q : Nat))] Q X μ :=
  mt_ow w (o_voters hw hz hS hC hR hq (fun v e b => by rw [ow_v]; exact K v e b))
theorem p_obstacle (hw : is_ow w) (hz : w + 17 ≤ z) (hS : wfS S) (hC : wfC S s) (hR : own S s (vw w μ)) {q : Nat} (hq : (q : Int) < s 5 0) (K : ∀ v, v = obs S s q → 0 ≤ v ∧ v ≤ 4 → Q (some (.int (iI v))) μ) : mt z 3 0 0 mX11_obstacle [.ref w, .int (iI (q : Nat))] Q X μ :=
  mt_ow w (o_obstacle hw hz hS hC hR hq (fun v e b => by rw [ow_v]; exact K v e b))
theorem p_decisive (hw : is_ow w) (hz : w + 17 ≤ z) (hS : wfS S) (hC : wfC S s) (hR : own S s (vw w μ)) {q : Nat} (hq : (q : Int) < s 5 0) (K : ∀ v, v = (ltk S s q (S 0 7).toNat).1 → -1 ≤ v ∧ v < 12 → Q (some (.int (iI v))) μ) : mt z 3 0 0 mX11_decisive [.ref w, .int (iI (q : Nat))] Q X μ :=
  mt_ow w (o_decisive hw hz hS hC hR hq (fun v e b => by rw [ow_v]; exact K v e b))
theorem p_firstBy (hw : is_ow w) (hz : w + 17 ≤ z) (hS : wfS S) (hC : wfC S s) (hR : own S s (vw w μ)) {N : Int} (hL : lim S s N) (hN : N ≤ 1000010) {b : Int} (hb : 0 ≤ b ∧ b ≤ 3) (K : ∀ v, v = fsl S s b → -1 ≤ v ∧ v < 12 ∧ (v = -1 ∨ v < s 11 0) → Q (some (.int (iI v))) μ) : mt z 2 0 0 mX11_firstBy [.ref w, .int (iI b)] Q X μ :=
  mt_ow w (o_firstBy hw hz hS hC hR hL hN hb (fun v e b => by rw [ow_v]; exact K v e b))
theorem p_who (hw : is_ow w) (hz : w + 17 ≤ z) (hS : wfS S) (hC : wfC S s) (hR : own S s (vw w μ)) {r : Nat} (hr : (r : Int) < s 11 0) (K : Q (some (.int (iI (s 12 r)))) μ) : mt z 0 0 0 mX11_who [.ref w, .int (iI (r : Nat))] Q X μ :=
  mt_ow w (o_who hw hz hS hC hr (own_F hS hC hR hr) (by rw [ow_v]; exact K))
end Raw
