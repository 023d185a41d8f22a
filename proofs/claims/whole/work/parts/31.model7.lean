/-! THE MODEL: readings -/
section MRd
variable {S s σ μ : Mem} {ν : Nat → Int}
theorem z7 (σ : Mem) : wr σ 0 7 0 0 7 = 0 := wr_s _ _ _ _
set_option maxRecDepth 8000 in
set_option maxHeartbeats 4000000 in
theorem m_memberCount (hr : rel S s ν) (hS : wfS S) (hC : wfC S s) {Q : Option Value → Mem → Prop} {X : String → Mem → Prop} (K : Q (some (.int (iI (S 0 7)))) (md (wr σ 0 7 0) ν μ)) : mt 289 3 0 0 mX11_memberCount [.ref 276] Q X (md σ ν μ) := by
  show go 289 3 0 0 mX11_memberCount Q X 0 [.ref 276] [] _
  obtain ⟨n1, n12, c1, c4⟩ := wf_n hS
  obtain ⟨q0, q16, r0, r12⟩ := wf_r hS hC
  have h7 := z7 σ
  refine go_aload_n (y := mX11_memberCount) (pc := 0) dX11_memberCount_0 rfl rfl ?_
  refine go_iconst (y := mX11_memberCount) (pc := 1) dX11_memberCount_1 ?_
  refine go_mput (y := mX11_memberCount) (pc := 2) dX11_memberCount_2 fp_X11_83 rfl rfl (by decide) (by omega) ?_
  refine go_aload_n (y := mX11_memberCount) (pc := 5) dX11_memberCount_5 rfl rfl ?_
  refine go_mref (y := mX11_memberCount) (pc := 6) dX11_memberCount_6 fl_X11_7 rfl rfl (by decide) ?_
  refine go_bipush (y := mX11_memberCount) (pc := 9) dX11_memberCount_9 (by decide) ?_
  refine go_nial (y := mX11_memberCount) (pc := 11) (k := 8) dX11_memberCount_11 (by decide) rfl (by omega) (fun r11 => ?_)
  refine go_top (b := S 0 7) (rs8 hr) (fun t11 => ?_)
  refine go_ireturn (y := mX11_memberCount) (pc := 12) dX11_memberCount_12 rfl ?_
  exact K
set_option maxRecDepth 8000 in
set_option maxHeartbeats 4000000 in
theorem m_motionCount (hr : rel S s ν) (hS : wfS S) (hC : wfC S s) {Q : Option Value → Mem → Prop} {X : String → Mem → Prop} (K : Q (some (.int (iI (s 5 0)))) (md (wr σ 0 7 0) ν μ)) : mt 289 3 0 0 mX11_motionCount [.ref 276] Q X (md σ ν μ) := by
  show go 289 3 0 0 mX11_motionCount Q X 0 [.ref 276] [] _
  obtain ⟨n1, n12, c1, c4⟩ := wf_n hS
  obtain ⟨q0, q16, r0, r12⟩ := wf_r hS hC
  have h7 := z7 σ
  refine go_aload_n (y := mX11_motionCount) (pc := 0) dX11_motionCount_0 rfl rfl ?_
  refine go_iconst (y := mX11_motionCount) (pc := 1) dX11_motionCount_1 ?_
  refine go_mput (y := mX11_motionCount) (pc := 2) dX11_motionCount_2 fp_X11_83 rfl rfl (by decide) (by omega) ?_
  refine go_aload_n (y := mX11_motionCount) (pc := 5) dX11_motionCount_5 rfl rfl ?_
  refine go_mref (y := mX11_motionCount) (pc := 6) dX11_motionCount_6 fl_X11_7 rfl rfl (by decide) ?_
  refine go_bipush (y := mX11_motionCount) (pc := 9) dX11_motionCount_9 (by decide) ?_
  refine go_nial (y := mX11_motionCount) (pc := 11) (k := 9) dX11_motionCount_11 (by decide) rfl (by omega) (fun r11 => ?_)
  refine go_top (b := s 5 0) (rs9 hr) (fun t11 => ?_)
  refine go_ireturn (y := mX11_motionCount) (pc := 12) dX11_motionCount_12 rfl ?_
  exact K
set_option maxRecDepth 8000 in
set_option maxHeartbeats 4000000 in
theorem m_chairCount (hr : rel S s ν) (hS : wfS S) (hC : wfC S s) {Q : Option Value → Mem → Prop} {X : String → Mem → Prop} (K : Q (some (.int (iI (S 0 0)))) (md (wr σ 0 7 0) ν μ)) : mt 289 3 0 0 mX11_chairCount [.ref 276] Q X (md σ ν μ) := by
  show go 289 3 0 0 mX11_chairCount Q X 0 [.ref 276] [] _
  obtain ⟨n1, n12, c1, c4⟩ := wf_n hS
  obtain ⟨q0, q16, r0, r12⟩ := wf_r hS hC
  have h7 := z7 σ
  refine go_aload_n (y := mX11_chairCount) (pc := 0) dX11_chairCount_0 rfl rfl ?_
  refine go_iconst (y := mX11_chairCount) (pc := 1) dX11_chairCount_1 ?_
  refine go_mput (y := mX11_chairCount) (pc := 2) dX11_chairCount_2 fp_X11_83 rfl rfl (by decide) (by omega) ?_
  refine go_aload_n (y := mX11_chairCount) (pc := 5) dX11_chairCount_5 rfl rfl ?_
  refine go_mref (y := mX11_chairCount) (pc := 6) dX11_chairCount_6 fl_X11_7 rfl rfl (by decide) ?_
  refine go_iconst (y := mX11_chairCount) (pc := 9) dX11_chairCount_9 ?_
  refine go_nial (y := mX11_chairCount) (pc := 10) (k := 0) dX11_chairCount_10 (by decide) rfl (by omega) (fun r10 => ?_)
  refine go_top (b := S 0 0) (rs0 hr) (fun t10 => ?_)
  refine go_ireturn (y := mX11_chairCount) (pc := 11) dX11_chairCount_11 rfl ?_
  exact K
set_option maxRecDepth 8000 in
set_option maxHeartbeats 4000000 in
theorem m_minute (hr : rel S s ν) (hS : wfS S) (hC : wfC S s) {Q : Option Value → Mem → Prop} {X : String → Mem → Prop} (K : Q (some (.int (iI (s 0 5)))) (md (wr σ 0 7 0) ν μ)) : mt 289 3 0 0 mX11_minute [.ref 276] Q X (md σ ν μ) := by
  show go 289 3 0 0 mX11_minute Q X 0 [.ref 276] [] _
  obtain ⟨n1, n12, c1, c4⟩ := wf_n hS
  obtain ⟨q0, q16, r0, r12⟩ := wf_r hS hC
  have h7 := z7 σ
  refine go_aload_n (y := mX11_minute) (pc := 0) dX11_minute_0 rfl rfl ?_
  refine go_iconst (y := mX11_minute) (pc := 1) dX11_minute_1 ?_
  refine go_mput (y := mX11_minute) (pc := 2) dX11_minute_2 fp_X11_83 rfl rfl (by decide) (by omega) ?_
  refine go_aload_n (y := mX11_minute) (pc := 5) dX11_minute_5 rfl rfl ?_
  refine go_mref (y := mX11_minute) (pc := 6) dX11_minute_6 fl_X11_7 rfl rfl (by decide) ?_
  refine go_bipush (y := mX11_minute) (pc := 9) dX11_minute_9 (by decide) ?_
  refine go_nial (y := mX11_minute) (pc := 11) (k := 7) dX11_minute_11 (by decide) rfl (by omega) (fun r11 => ?_)
  refine go_top (b := s 0 5) (rs7 hr) (fun t11 => ?_)
  refine go_ireturn (y := mX11_minute) (pc := 12) dX11_minute_12 rfl ?_
  exact K
set_option maxRecDepth 8000 in
set_option maxHeartbeats 4000000 in
theorem m_ranking (hr : rel S s ν) (hS : wfS S) (hC : wfC S s) {Q : Option Value → Mem → Prop} {X : String → Mem → Prop} (K : Q (some (.int (iI (s 0 6)))) (md (wr σ 0 7 0) ν μ)) : mt 289 3 0 0 mX11_ranking [.ref 276] Q X (md σ ν μ) := by
  show go 289 3 0 0 mX11_ranking Q X 0 [.ref 276] [] _
  obtain ⟨n1, n12, c1, c4⟩ := wf_n hS
  obtain ⟨q0, q16, r0, r12⟩ := wf_r hS hC
  have h7 := z7 σ
  refine go_aload_n (y := mX11_ranking) (pc := 0) dX11_ranking_0 rfl rfl ?_
  refine go_iconst (y := mX11_ranking) (pc := 1) dX11_ranking_1 ?_
  refine go_mput (y := mX11_ranking) (pc := 2) dX11_ranking_2 fp_X11_83 rfl rfl (by decide) (by omega) ?_
  refine go_aload_n (y := mX11_ranking) (pc := 5) dX11_ranking_5 rfl rfl ?_
  refine go_mref (y := mX11_ranking) (pc := 6) dX11_ranking_6 fl_X11_7 rfl rfl (by decide) ?_
  refine go_bipush (y := mX11_ranking) (pc := 9) dX11_ranking_9 (by decide) ?_
  refine go_nial (y := mX11_ranking) (pc := 11) (k := 10) dX11_ranking_11 (by decide) rfl (by omega) (fun r11 => ?_)
  refine go_top (b := s 0 6) (rs10 hr) (fun t11 => ?_)
  refine go_ireturn (y := mX11_ranking) (pc := 12) dX11_ranking_12 rfl ?_
  exact K
set_option maxRecDepth 8000 in
set_option maxHeartbeats 4000000 in
theorem m_requestCount (hr : rel S s ν) (hS : wfS S) (hC : wfC S s) {Q : Option Value → Mem → Prop} {X : String → Mem → Prop} (K : Q (some (.int (iI (s 11 0)))) (md (wr σ 0 7 0) ν μ)) : mt 289 3 0 0 mX11_requestCount [.ref 276] Q X (md σ ν μ) := by
  show go 289 3 0 0 mX11_requestCount Q X 0 [.ref 276] [] _
  obtain ⟨n1, n12, c1, c4⟩ := wf_n hS
  obtain ⟨q0, q16, r0, r12⟩ := wf_r hS hC
  have h7 := z7 σ
  refine go_aload_n (y := mX11_requestCount) (pc := 0) dX11_requestCount_0 rfl rfl ?_
  refine go_iconst (y := mX11_requestCount) (pc := 1) dX11_requestCount_1 ?_
  refine go_mput (y := mX11_requestCount) (pc := 2) dX11_requestCount_2 fp_X11_83 rfl rfl (by decide) (by omega) ?_
  refine go_aload_n (y := mX11_requestCount) (pc := 5) dX11_requestCount_5 rfl rfl ?_
  refine go_mref (y := mX11_requestCount) (pc := 6) dX11_requestCount_6 fl_X11_7 rfl rfl (by decide) ?_
  refine go_bipush (y := mX11_requestCount) (pc := 9) dX11_requestCount_9 (by decide) ?_
  refine go_nial (y := mX11_requestCount) (pc := 11) (k := 11) dX11_requestCount_11 (by decide) rfl (by omega) (fun r11 => ?_)
  refine go_top (b := s 11 0) (rs11 hr) (fun t11 => ?_)
  refine go_ireturn (y := mX11_requestCount) (pc := 12) dX11_requestCount_12 rfl ?_
  exact K
set_option maxRecDepth 8000 in
set_option maxHeartbeats 4000000 in
theorem m_tips (hr : rel S s ν) (hS : wfS S) (hC : wfC S s) {Q : Option Value → Mem → Prop} {X : String → Mem → Prop} (K : Q (some (.int (iI (s 0 7)))) (md (wr σ 0 7 0) ν μ)) : mt 289 3 0 0 mX11_tips [.ref 276] Q X (md σ ν μ) := by
  show go 289 3 0 0 mX11_tips Q X 0 [.ref 276] [] _
  obtain ⟨n1, n12, c1, c4⟩ := wf_n hS
  obtain ⟨q0, q16, r0, r12⟩ := wf_r hS hC
  have h7 := z7 σ
  refine go_aload_n (y := mX11_tips) (pc := 0) dX11_tips_0 rfl rfl ?_
  refine go_iconst (y := mX11_tips) (pc := 1) dX11_tips_1 ?_
  refine go_mput (y := mX11_tips) (pc := 2) dX11_tips_2 fp_X11_83 rfl rfl (by decide) (by omega) ?_
  refine go_aload_n (y := mX11_tips) (pc := 5) dX11_tips_5 rfl rfl ?_
  refine go_mref (y := mX11_tips) (pc := 6) dX11_tips_6 fl_X11_7 rfl rfl (by decide) ?_
  refine go_bipush (y := mX11_tips) (pc := 9) dX11_tips_9 (by decide) ?_
  refine go_nial (y := mX11_tips) (pc := 11) (k := 12) dX11_tips_11 (by decide) rfl (by omega) (fun r11 => ?_)
  refine go_top (b := s 0 7) (rs12 hr) (fun t11 => ?_)
  refine go_ireturn (y := mX11_tips) (pc := 12) dX11_tips_12 rfl ?_
  exact K
set_option maxRecDepth 8000 in
set_option maxHeartbeats 4000000 in
theorem m_voteCount (hr : rel S s ν) (hS : wfS S) (hC : wfC S s) {Q : Option Value → Mem → Prop} {X : String → Mem → Prop} (K : Q (some (.int (iI (s 0 8)))) (md (wr σ 0 7 0) ν μ)) : mt 289 3 0 0 mX11_voteCount [.ref 276] Q X (md σ ν μ) := by
  show go 289 3 0 0 mX11_voteCount Q X 0 [.ref 276] [] _
  obtain ⟨n1, n12, c1, c4⟩ := wf_n hS
  obtain ⟨q0, q16, r0, r12⟩ := wf_r hS hC
  have h7 := z7 σ
  refine go_aload_n (y := mX11_voteCount) (pc := 0) dX11_voteCount_0 rfl rfl ?_
  refine go_iconst (y := mX11_voteCount) (pc := 1) dX11_voteCount_1 ?_
  refine go_mput (y := mX11_voteCount) (pc := 2) dX11_voteCount_2 fp_X11_83 rfl rfl (by decide) (by omega) ?_
  refine go_aload_n (y := mX11_voteCount) (pc := 5) dX11_voteCount_5 rfl rfl ?_
  refine go_mref (y := mX11_voteCount) (pc := 6) dX11_voteCount_6 fl_X11_7 rfl rfl (by decide) ?_
  refine go_bipush (y := mX11_voteCount) (pc := 9) dX11_voteCount_9 (by decide) ?_
  refine go_nial (y := mX11_voteCount) (pc := 11) (k := 13) dX11_voteCount_11 (by decide) rfl (by omega) (fun r11 => ?_)
  refine go_top (b := s 0 8) (rs13 hr) (fun t11 => ?_)
  refine go_ireturn (y := mX11_voteCount) (pc := 12) dX11_voteCount_12 rfl ?_
  exact K
set_option maxRecDepth 8000 in
set_option maxHeartbeats 4000000 in
theorem m_rebuttalCount (hr : rel S s ν) (hS : wfS S) (hC : wfC S s) {Q : Option Value → Mem → Prop} {X : String → Mem → Prop} (K : Q (some (.int (iI (s 0 9)))) (md (wr σ 0 7 0) ν μ)) : mt 289 3 0 0 mX11_rebuttalCount [.ref 276] Q X (md σ ν μ) := by
  show go 289 3 0 0 mX11_rebuttalCount Q X 0 [.ref 276] [] _
  obtain ⟨n1, n12, c1, c4⟩ := wf_n hS
  obtain ⟨q0, q16, r0, r12⟩ := wf_r hS hC
  have h7 := z7 σ
  refine go_aload_n (y := mX11_rebuttalCount) (pc := 0) dX11_rebuttalCount_0 rfl rfl ?_
  refine go_iconst (y := mX11_rebuttalCount) (pc := 1) dX11_rebuttalCount_1 ?_
  refine go_mput (y := mX11_rebuttalCount) (pc := 2) dX11_rebuttalCount_2 fp_X11_83 rfl rfl (by decide) (by omega) ?_
  refine go_aload_n (y := mX11_rebuttalCount) (pc := 5) dX11_rebuttalCount_5 rfl rfl ?_
  refine go_mref (y := mX11_rebuttalCount) (pc := 6) dX11_rebuttalCount_6 fl_X11_7 rfl rfl (by decide) ?_
  refine go_bipush (y := mX11_rebuttalCount) (pc := 9) dX11_rebuttalCount_9 (by decide) ?_
  refine go_nial (y := mX11_rebuttalCount) (pc := 11) (k := 14) dX11_rebuttalCount_11 (by decide) rfl (by omega) (fun r11 => ?_)
  refine go_top (b := s 0 9) (rs14 hr) (fun t11 => ?_)
  refine go_ireturn (y := mX11_rebuttalCount) (pc := 12) dX11_rebuttalCount_12 rfl ?_
  exact K
set_option maxRecDepth 8000 in
set_option maxHeartbeats 4000000 in
theorem m_freeMirrors (hr : rel S s ν) (hS : wfS S) (hC : wfC S s) {Q : Option Value → Mem → Prop} {X : String → Mem → Prop} (K : Q (some (.int (iI (frm S s)))) (md (wr σ 0 7 0) ν μ)) : mt 289 3 0 0 mX11_freeMirrors [.ref 276] Q X (md σ ν μ) := by
  show go 289 3 0 0 mX11_freeMirrors Q X 0 [.ref 276] [] _
  obtain ⟨n1, n12, c1, c4⟩ := wf_n hS
  obtain ⟨q0, q16, r0, r12⟩ := wf_r hS hC
  have h7 := z7 σ
  refine go_aload_n (y := mX11_freeMirrors) (pc := 0) dX11_freeMirrors_0 rfl rfl ?_
  refine go_iconst (y := mX11_freeMirrors) (pc := 1) dX11_freeMirrors_1 ?_
  refine go_mput (y := mX11_freeMirrors) (pc := 2) dX11_freeMirrors_2 fp_X11_83 rfl rfl (by decide) (by omega) ?_
  refine go_aload_n (y := mX11_freeMirrors) (pc := 5) dX11_freeMirrors_5 rfl rfl ?_
  refine go_callV0 (y := mX11_freeMirrors) (pc := 6) (y' := mX11_mirrorsLeft) (kc2 := 0) (ks2 := 0) dX11_freeMirrors_6 ml_X11_366 ok_X11_mirrorsLeft (show shp 276 = _ from rfl) ⟨_, _, rfl⟩ (by decide) trivial (by decide) (Nat.le_of_ble_eq_true rfl) rfl (m_mirrorsLeft hr hS hC (fun v6 e6 b6 => ?_))
  refine go_ireturn (y := mX11_freeMirrors) (pc := 9) dX11_freeMirrors_9 rfl ?_
  rw [e6]
  exact K
set_option maxRecDepth 8000 in
set_option maxHeartbeats 4000000 in
theorem m_undoCount  {Q : Option Value → Mem → Prop} {X : String → Mem → Prop} (K : Q (some (.int (iI (wr σ 0 7 0 0 6)))) (md (wr σ 0 7 0) ν μ)) : mt 289 0 0 0 mX11_undoCount [.ref 276] Q X (md σ ν μ) := by
  show go 289 0 0 0 mX11_undoCount Q X 0 [.ref 276] [] _
  refine go_aload_n (y := mX11_undoCount) (pc := 0) dX11_undoCount_0 rfl rfl ?_
  refine go_iconst (y := mX11_undoCount) (pc := 1) dX11_undoCount_1 ?_
  refine go_mput (y := mX11_undoCount) (pc := 2) dX11_undoCount_2 fp_X11_83 rfl rfl (by decide) (by omega) ?_
  refine go_aload_n (y := mX11_undoCount) (pc := 5) dX11_undoCount_5 rfl rfl ?_
  refine go_mget (y := mX11_undoCount) (pc := 6) dX11_undoCount_6 fl_X11_237 rfl rfl (by decide) (fun r6 => ?_)
  refine go_ireturn (y := mX11_undoCount) (pc := 9) dX11_undoCount_9 rfl ?_
  exact K
set_option maxRecDepth 8000 in
set_option maxHeartbeats 4000000 in
theorem m_errorCode  {Q : Option Value → Mem → Prop} {X : String → Mem → Prop} (K : Q (some (.int (iI (wr σ 0 7 0 0 10)))) (md (wr σ 0 7 0) ν μ)) : mt 289 0 0 0 mX11_errorCode [.ref 276] Q X (md σ ν μ) := by
  show go 289 0 0 0 mX11_errorCode Q X 0 [.ref 276] [] _
  refine go_aload_n (y := mX11_errorCode) (pc := 0) dX11_errorCode_0 rfl rfl ?_
  refine go_iconst (y := mX11_errorCode) (pc := 1) dX11_errorCode_1 ?_
  refine go_mput (y := mX11_errorCode) (pc := 2) dX11_errorCode_2 fp_X11_83 rfl rfl (by decide) (by omega) ?_
  refine go_aload_n (y := mX11_errorCode) (pc := 5) dX11_errorCode_5 rfl rfl ?_
  refine go_mget (y := mX11_errorCode) (pc := 6) dX11_errorCode_6 fl_X11_171 rfl rfl (by decide) (fun r6 => ?_)
  refine go_ireturn (y := mX11_errorCode) (pc := 9) dX11_errorCode_9 rfl ?_
  exact K
set_option maxRecDepth 8000 in
set_option maxHeartbeats 4000000 in
theorem m_errorPosition  {Q : Option Value → Mem → Prop} {X : String → Mem → Prop} (K : Q (some (.int (iI (wr σ 0 7 0 0 11)))) (md (wr σ 0 7 0) ν μ)) : mt 289 0 0 0 mX11_errorPosition [.ref 276] Q X (md σ ν μ) := by
  show go 289 0 0 0 mX11_errorPosition Q X 0 [.ref 276] [] _
  refine go_aload_n (y := mX11_errorPosition) (pc := 0) dX11_errorPosition_0 rfl rfl ?_
  refine go_iconst (y := mX11_errorPosition) (pc := 1) dX11_errorPosition_1 ?_
  refine go_mput (y := mX11_errorPosition) (pc := 2) dX11_errorPosition_2 fp_X11_83 rfl rfl (by decide) (by omega) ?_
  refine go_aload_n (y := mX11_errorPosition) (pc := 5) dX11_errorPosition_5 rfl rfl ?_
  refine go_mget (y := mX11_errorPosition) (pc := 6) dX11_errorPosition_6 fl_X11_32 rfl rfl (by decide) (fun r6 => ?_)
  refine go_ireturn (y := mX11_errorPosition) (pc := 9) dX11_errorPosition_9 rfl ?_
  exact K
set_option maxRecDepth 8000 in
set_option maxHeartbeats 4000000 in
theorem m_finds {m : Int} (hm : rng m) (hr : rel S s ν) (hS : wfS S) (hC : wfC S s) {Q : Option Value → Mem → Prop} {X : String → Mem → Prop} (K : 0 ≤ m ∧ m < s 5 0 → Q (some (.int (iI 1))) (md (wr σ 0 7 0) ν μ)) (K2 : ¬ (0 ≤ m ∧ m < s 5 0) → Q (some (.int (iI 0))) (md (wr (wr σ 0 7 0) 0 7 1) ν μ)) : mt 289 2 0 0 mX11_finds [.ref 276, .int (iI m)] Q X (md σ ν μ) := by
  show go 289 2 0 0 mX11_finds Q X 0 [.ref 276, .int (iI m)] [] _
  obtain ⟨n1, n12, c1, c4⟩ := wf_n hS
  obtain ⟨q0, q16, r0, r12⟩ := wf_r hS hC
  have h7 := z7 σ
  refine go_aload_n (y := mX11_finds) (pc := 0) dX11_finds_0 rfl rfl ?_
  refine go_iconst (y := mX11_finds) (pc := 1) dX11_finds_1 ?_
  refine go_mput (y := mX11_finds) (pc := 2) dX11_finds_2 fp_X11_83 rfl rfl (by decide) (by omega) ?_
  refine go_aload_n (y := mX11_finds) (pc := 5) dX11_finds_5 rfl rfl ?_
  refine go_aload_n (y := mX11_finds) (pc := 6) dX11_finds_6 rfl rfl ?_
  refine go_iload_n (y := mX11_finds) (pc := 7) dX11_finds_7 rfl rfl ?_
  refine go_callV1 (y := mX11_finds) (pc := 8) (y' := mX11_isMotion) (kc2 := 0) (ks2 := 0) dX11_finds_8 ml_X11_345 ok_X11_isMotion (show shp 276 = _ from rfl) ⟨_, _, rfl⟩ (by decide) rfl (by decide) (Nat.le_of_ble_eq_true rfl) rfl (m_isMotion (by omega) hr hC (fun v8 e8 b8 => ?_))
  refine go_iconst (y := mX11_finds) (pc := 11) dX11_finds_11 ?_
  refine go_callV2 (y := mX11_finds) (pc := 12) (y' := mX11_right) (kc2 := 0) (ks2 := 0) dX11_finds_12 ml_X11_167 ok_X11_right (show shp 276 = _ from rfl) ⟨_, _, rfl⟩ (by decide) ⟨rfl, rfl⟩ (by decide) (Nat.le_of_ble_eq_true rfl) rfl (m_right h7 (by omega) (by decide) (fun v12 e12 g12 => ?_) (fun g12 => ?_))
  · skip
    refine go_zreturn (y := mX11_finds) (pc := 15) dX11_finds_15 rfl (by omega) ?_
    have g := K (bI_1 e8 (by omega))
    rw [show v12 = 1 by omega]
    exact g
  · skip
    refine go_zreturn (y := mX11_finds) (pc := 15) dX11_finds_15 rfl (by omega) ?_
    exact K2 (bI_0 e8 g12)
set_option maxRecDepth 8000 in
set_option maxHeartbeats 4000000 in
theorem m_sees {m : Int} (hm : rng m) (hr : rel S s ν) (hS : wfS S) (hC : wfC S s) {Q : Option Value → Mem → Prop} {X : String → Mem → Prop} (K : 0 ≤ m ∧ m < S 0 0 → Q (some (.int (iI 1))) (md (wr σ 0 7 0) ν μ)) (K2 : ¬ (0 ≤ m ∧ m < S 0 0) → Q (some (.int (iI 0))) (md (wr (wr σ 0 7 0) 0 7 1) ν μ)) : mt 289 2 0 0 mX11_sees [.ref 276, .int (iI m)] Q X (md σ ν μ) := by
  show go 289 2 0 0 mX11_sees Q X 0 [.ref 276, .int (iI m)] [] _
  obtain ⟨n1, n12, c1, c4⟩ := wf_n hS
  obtain ⟨q0, q16, r0, r12⟩ := wf_r hS hC
  have h7 := z7 σ
  refine go_aload_n (y := mX11_sees) (pc := 0) dX11_sees_0 rfl rfl ?_
  refine go_iconst (y := mX11_sees) (pc := 1) dX11_sees_1 ?_
  refine go_mput (y := mX11_sees) (pc := 2) dX11_sees_2 fp_X11_83 rfl rfl (by decide) (by omega) ?_
  refine go_aload_n (y := mX11_sees) (pc := 5) dX11_sees_5 rfl rfl ?_
  refine go_aload_n (y := mX11_sees) (pc := 6) dX11_sees_6 rfl rfl ?_
  refine go_iload_n (y := mX11_sees) (pc := 7) dX11_sees_7 rfl rfl ?_
  refine go_callV1 (y := mX11_sees) (pc := 8) (y' := mX11_isChair) (kc2 := 0) (ks2 := 0) dX11_sees_8 ml_X11_369 ok_X11_isChair (show shp 276 = _ from rfl) ⟨_, _, rfl⟩ (by decide) rfl (by decide) (Nat.le_of_ble_eq_true rfl) rfl (m_isChair (by omega) hr hS (fun v8 e8 b8 => ?_))
  refine go_iconst (y := mX11_sees) (pc := 11) dX11_sees_11 ?_
  refine go_callV2 (y := mX11_sees) (pc := 12) (y' := mX11_right) (kc2 := 0) (ks2 := 0) dX11_sees_12 ml_X11_167 ok_X11_right (show shp 276 = _ from rfl) ⟨_, _, rfl⟩ (by decide) ⟨rfl, rfl⟩ (by decide) (Nat.le_of_ble_eq_true rfl) rfl (m_right h7 (by omega) (by decide) (fun v12 e12 g12 => ?_) (fun g12 => ?_))
  · skip
    refine go_zreturn (y := mX11_sees) (pc := 15) dX11_sees_15 rfl (by omega) ?_
    have g := K (bI_1 e8 (by omega))
    rw [show v12 = 1 by omega]
    exact g
  · skip
    refine go_zreturn (y := mX11_sees) (pc := 15) dX11_sees_15 rfl (by omega) ?_
    exact K2 (bI_0 e8 g12)
set_option maxRecDepth 8000 in
set_option maxHeartbeats 4000000 in
theorem m_asked {m : Int} {w : Nat} (hw : w < 6) (hm : rng m) (hr : rel S s ν) (hS : wfS S) (hC : wfC S s) {Q : Option Value → Mem → Prop} {X : String → Mem → Prop} (K : ∀ k : Nat, m = k → (k : Int) < S 0 7 → ∀ v, v = ν (18 + 6 * k + w) → Q (some (.int (iI v))) (md (wr σ 0 7 0) ν μ)) (K2 : ¬ (0 ≤ m ∧ m < S 0 7) → Q (some (.int (iI 0))) (md (wr (wr σ 0 7 0) 0 7 1) ν μ)) : mt 289 2 0 0 mX11_asked [.ref 276, .int (iI m), .int (iI (w : Nat))] Q X (md σ ν μ) := by
  show go 289 2 0 0 mX11_asked Q X 0 [.ref 276, .int (iI m), .int (iI (w : Nat))] [] _
  obtain ⟨n1, n12, c1, c4⟩ := wf_n hS
  obtain ⟨q0, q16, r0, r12⟩ := wf_r hS hC
  have h7 := z7 σ
  by_cases g : 0 ≤ m ∧ m < S 0 7
  · obtain ⟨k, rfl⟩ := Int.eq_ofNat_of_zero_le g.1
    have g2 := g.2
    refine go_aload_n (y := mX11_asked) (pc := 0) dX11_asked_0 rfl rfl ?_
    refine go_iconst (y := mX11_asked) (pc := 1) dX11_asked_1 ?_
    refine go_mput (y := mX11_asked) (pc := 2) dX11_asked_2 fp_X11_83 rfl rfl (by decide) (by omega) ?_
    refine go_aload_n (y := mX11_asked) (pc := 5) dX11_asked_5 rfl rfl ?_
    refine go_aload_n (y := mX11_asked) (pc := 6) dX11_asked_6 rfl rfl ?_
    refine go_iload_n (y := mX11_asked) (pc := 7) dX11_asked_7 rfl rfl ?_
    refine go_callV1 (y := mX11_asked) (pc := 8) (y' := mX11_isMember) (kc2 := 0) (ks2 := 0) dX11_asked_8 ml_X11_339 ok_X11_isMember (show shp 276 = _ from rfl) ⟨_, _, rfl⟩ (by decide) rfl (by decide) (Nat.le_of_ble_eq_true rfl) rfl (m_isMember (by omega) hr hS (fun v8 e8 b8 => ?_))
    refine go_iconst (y := mX11_asked) (pc := 11) dX11_asked_11 ?_
    refine go_callV2 (y := mX11_asked) (pc := 12) (y' := mX11_right) (kc2 := 0) (ks2 := 0) dX11_asked_12 ml_X11_167 ok_X11_right (show shp 276 = _ from rfl) ⟨_, _, rfl⟩ (by decide) ⟨rfl, rfl⟩ (by decide) (Nat.le_of_ble_eq_true rfl) rfl (m_right h7 (by omega) (by decide) (fun v12 e12 g12 => ?_) (fun g12 => ?_))
    · skip
      refine go_if_eq (y := mX11_asked) (pc := 15) (tgt := 27) dX11_asked_15 (by decide) (by omega) (fun h15 => ?_) (fun h15 => ?_)
      · skip
        exact absurd h15 (by omega)
      · skip
        refine go_aload_n (y := mX11_asked) (pc := 18) dX11_asked_18 rfl rfl ?_
        refine go_iload_n (y := mX11_asked) (pc := 19) dX11_asked_19 rfl rfl ?_
        refine go_iload_n (y := mX11_asked) (pc := 20) dX11_asked_20 rfl rfl ?_
        refine go_callV2 (y := mX11_asked) (pc := 21) (y' := mX11_of) (kc2 := 0) (ks2 := 0) dX11_asked_21 ml_X11_100 ok_X11_of (show shp 276 = _ from rfl) ⟨_, _, rfl⟩ (by decide) ⟨rfl, rfl⟩ (by decide) (Nat.le_of_ble_eq_true rfl) rfl (m_of (m := k) (w := w) (by omega) hw (fun v21 e21 r21 => ?_))
        refine go_goto (y := mX11_asked) (pc := 24) (tgt := 28) dX11_asked_24 (by decide) ?_
        refine go_ireturn (y := mX11_asked) (pc := 28) dX11_asked_28 rfl ?_
        exact K k rfl (by omega) _ e21
    · skip
      exact absurd g (bI_0 e8 g12)
  · skip
    refine go_aload_n (y := mX11_asked) (pc := 0) dX11_asked_0 rfl rfl ?_
    refine go_iconst (y := mX11_asked) (pc := 1) dX11_asked_1 ?_
    refine go_mput (y := mX11_asked) (pc := 2) dX11_asked_2 fp_X11_83 rfl rfl (by decide) (by omega) ?_
    refine go_aload_n (y := mX11_asked) (pc := 5) dX11_asked_5 rfl rfl ?_
    refine go_aload_n (y := mX11_asked) (pc := 6) dX11_asked_6 rfl rfl ?_
    refine go_iload_n (y := mX11_asked) (pc := 7) dX11_asked_7 rfl rfl ?_
    refine go_callV1 (y := mX11_asked) (pc := 8) (y' := mX11_isMember) (kc2 := 0) (ks2 := 0) dX11_asked_8 ml_X11_339 ok_X11_isMember (show shp 276 = _ from rfl) ⟨_, _, rfl⟩ (by decide) rfl (by decide) (Nat.le_of_ble_eq_true rfl) rfl (m_isMember (by omega) hr hS (fun v8 e8 b8 => ?_))
    refine go_iconst (y := mX11_asked) (pc := 11) dX11_asked_11 ?_
    refine go_callV2 (y := mX11_asked) (pc := 12) (y' := mX11_right) (kc2 := 0) (ks2 := 0) dX11_asked_12 ml_X11_167 ok_X11_right (show shp 276 = _ from rfl) ⟨_, _, rfl⟩ (by decide) ⟨rfl, rfl⟩ (by decide) (Nat.le_of_ble_eq_true rfl) rfl (m_right h7 (by omega) (by decide) (fun v12 e12 g12 => ?_) (fun g12 => ?_))
    · skip
      exact absurd (bI_1 e8 (by omega)) g
    · skip
      refine go_if_eq (y := mX11_asked) (pc := 15) (tgt := 27) dX11_asked_15 (by decide) (by omega) (fun h15 => ?_) (fun h15 => ?_)
      · skip
        refine go_iconst (y := mX11_asked) (pc := 27) dX11_asked_27 ?_
        refine go_ireturn (y := mX11_asked) (pc := 28) dX11_asked_28 rfl ?_
        exact K2 g
      · skip
        exact absurd rfl h15
set_option maxRecDepth 8000 in
set_option maxHeartbeats 4000000 in
theorem m_chairOf {m : Int} (hm : rng m) (hr : rel S s ν) (hS : wfS S) (hC : wfC S s) {Q : Option Value → Mem → Prop} {X : String → Mem → Prop} (K : ∀ k : Nat, m = k → (k : Int) < S 0 7 → Q (some (.int (iI (tkn s k)))) (md (wr σ 0 7 0) ν μ)) (K2 : ¬ (0 ≤ m ∧ m < S 0 7) → Q (some (.int (iI 0))) (md (wr (wr σ 0 7 0) 0 7 1) ν μ)) : mt 289 2 0 0 mX11_chairOf [.ref 276, .int (iI m)] Q X (md σ ν μ) := by
  show go 289 2 0 0 mX11_chairOf Q X 0 [.ref 276, .int (iI m)] [] _
  obtain ⟨n1, n12, c1, c4⟩ := wf_n hS
  obtain ⟨q0, q16, r0, r12⟩ := wf_r hS hC
  have h7 := z7 σ
  by_cases g : 0 ≤ m ∧ m < S 0 7
  · obtain ⟨k, rfl⟩ := Int.eq_ofNat_of_zero_le g.1
    have g2 := g.2
    refine go_aload_n (y := mX11_chairOf) (pc := 0) dX11_chairOf_0 rfl rfl ?_
    refine go_iconst (y := mX11_chairOf) (pc := 1) dX11_chairOf_1 ?_
    refine go_mput (y := mX11_chairOf) (pc := 2) dX11_chairOf_2 fp_X11_83 rfl rfl (by decide) (by omega) ?_
    refine go_aload_n (y := mX11_chairOf) (pc := 5) dX11_chairOf_5 rfl rfl ?_
    refine go_aload_n (y := mX11_chairOf) (pc := 6) dX11_chairOf_6 rfl rfl ?_
    refine go_iload_n (y := mX11_chairOf) (pc := 7) dX11_chairOf_7 rfl rfl ?_
    refine go_callV1 (y := mX11_chairOf) (pc := 8) (y' := mX11_isMember) (kc2 := 0) (ks2 := 0) dX11_chairOf_8 ml_X11_339 ok_X11_isMember (show shp 276 = _ from rfl) ⟨_, _, rfl⟩ (by decide) rfl (by decide) (Nat.le_of_ble_eq_true rfl) rfl (m_isMember (by omega) hr hS (fun v8 e8 b8 => ?_))
    refine go_iconst (y := mX11_chairOf) (pc := 11) dX11_chairOf_11 ?_
    refine go_callV2 (y := mX11_chairOf) (pc := 12) (y' := mX11_right) (kc2 := 0) (ks2 := 0) dX11_chairOf_12 ml_X11_167 ok_X11_right (show shp 276 = _ from rfl) ⟨_, _, rfl⟩ (by decide) ⟨rfl, rfl⟩ (by decide) (Nat.le_of_ble_eq_true rfl) rfl (m_right h7 (by omega) (by decide) (fun v12 e12 g12 => ?_) (fun g12 => ?_))
    · skip
      refine go_if_eq (y := mX11_chairOf) (pc := 15) (tgt := 26) dX11_chairOf_15 (by decide) (by omega) (fun h15 => ?_) (fun h15 => ?_)
      · skip
        exact absurd h15 (by omega)
      · skip
        refine go_aload_n (y := mX11_chairOf) (pc := 18) dX11_chairOf_18 rfl rfl ?_
        refine go_iload_n (y := mX11_chairOf) (pc := 19) dX11_chairOf_19 rfl rfl ?_
        refine go_callV1 (y := mX11_chairOf) (pc := 20) (y' := mX11_seatOf) (kc2 := 0) (ks2 := 0) dX11_chairOf_20 ml_X11_348 ok_X11_seatOf (show shp 276 = _ from rfl) ⟨_, _, rfl⟩ (by decide) rfl (by decide) (Nat.le_of_ble_eq_true rfl) rfl (m_seatOf (by omega) (by omega) hr hS hC (fun v20 e20 b20 => ?_))
        refine go_goto (y := mX11_chairOf) (pc := 23) (tgt := 27) dX11_chairOf_23 (by decide) ?_
        refine go_ireturn (y := mX11_chairOf) (pc := 27) dX11_chairOf_27 rfl ?_
        rw [e20]
        exact K k rfl (by omega)
    · skip
      exact absurd g (bI_0 e8 g12)
  · skip
    refine go_aload_n (y := mX11_chairOf) (pc := 0) dX11_chairOf_0 rfl rfl ?_
    refine go_iconst (y := mX11_chairOf) (pc := 1) dX11_chairOf_1 ?_
    refine go_mput (y := mX11_chairOf) (pc := 2) dX11_chairOf_2 fp_X11_83 rfl rfl (by decide) (by omega) ?_
    refine go_aload_n (y := mX11_chairOf) (pc := 5) dX11_chairOf_5 rfl rfl ?_
    refine go_aload_n (y := mX11_chairOf) (pc := 6) dX11_chairOf_6 rfl rfl ?_
    refine go_iload_n (y := mX11_chairOf) (pc := 7) dX11_chairOf_7 rfl rfl ?_
    refine go_callV1 (y := mX11_chairOf) (pc := 8) (y' := mX11_isMember) (kc2 := 0) (ks2 := 0) dX11_chairOf_8 ml_X11_339 ok_X11_isMember (show shp 276 = _ from rfl) ⟨_, _, rfl⟩ (by decide) rfl (by decide) (Nat.le_of_ble_eq_true rfl) rfl (m_isMember (by omega) hr hS (fun v8 e8 b8 => ?_))
    refine go_iconst (y := mX11_chairOf) (pc := 11) dX11_chairOf_11 ?_
    refine go_callV2 (y := mX11_chairOf) (pc := 12) (y' := mX11_right) (kc2 := 0) (ks2 := 0) dX11_chairOf_12 ml_X11_167 ok_X11_right (show shp 276 = _ from rfl) ⟨_, _, rfl⟩ (by decide) ⟨rfl, rfl⟩ (by decide) (Nat.le_of_ble_eq_true rfl) rfl (m_right h7 (by omega) (by decide) (fun v12 e12 g12 => ?_) (fun g12 => ?_))
    · skip
      exact absurd (bI_1 e8 (by omega)) g
    · skip
      refine go_if_eq (y := mX11_chairOf) (pc := 15) (tgt := 26) dX11_chairOf_15 (by decide) (by omega) (fun h15 => ?_) (fun h15 => ?_)
      · skip
        refine go_iconst (y := mX11_chairOf) (pc := 26) dX11_chairOf_26 ?_
        refine go_ireturn (y := mX11_chairOf) (pc := 27) dX11_chairOf_27 rfl ?_
        exact K2 g
      · skip
        exact absurd rfl h15
set_option maxRecDepth 8000 in
set_option maxHeartbeats 4000000 in
theorem m_placeInList {m : Int} (hm : rng m) (hr : rel S s ν) (hS : wfS S) (hC : wfC S s) {Q : Option Value → Mem → Prop} {X : String → Mem → Prop} (K : ∀ k : Nat, m = k → (k : Int) < S 0 7 → Q (some (.int (iI (plc s k)))) (md (wr σ 0 7 0) ν μ)) (K2 : ¬ (0 ≤ m ∧ m < S 0 7) → Q (some (.int (iI 0))) (md (wr (wr σ 0 7 0) 0 7 1) ν μ)) : mt 289 2 0 0 mX11_placeInList [.ref 276, .int (iI m)] Q X (md σ ν μ) := by
  show go 289 2 0 0 mX11_placeInList Q X 0 [.ref 276, .int (iI m)] [] _
  obtain ⟨n1, n12, c1, c4⟩ := wf_n hS
  obtain ⟨q0, q16, r0, r12⟩ := wf_r hS hC
  have h7 := z7 σ
  by_cases g : 0 ≤ m ∧ m < S 0 7
  · obtain ⟨k, rfl⟩ := Int.eq_ofNat_of_zero_le g.1
    have g2 := g.2
    refine go_aload_n (y := mX11_placeInList) (pc := 0) dX11_placeInList_0 rfl rfl ?_
    refine go_iconst (y := mX11_placeInList) (pc := 1) dX11_placeInList_1 ?_
    refine go_mput (y := mX11_placeInList) (pc := 2) dX11_placeInList_2 fp_X11_83 rfl rfl (by decide) (by omega) ?_
    refine go_aload_n (y := mX11_placeInList) (pc := 5) dX11_placeInList_5 rfl rfl ?_
    refine go_aload_n (y := mX11_placeInList) (pc := 6) dX11_placeInList_6 rfl rfl ?_
    refine go_iload_n (y := mX11_placeInList) (pc := 7) dX11_placeInList_7 rfl rfl ?_
    refine go_callV1 (y := mX11_placeInList) (pc := 8) (y' := mX11_isMember) (kc2 := 0) (ks2 := 0) dX11_placeInList_8 ml_X11_339 ok_X11_isMember (show shp 276 = _ from rfl) ⟨_, _, rfl⟩ (by decide) rfl (by decide) (Nat.le_of_ble_eq_true rfl) rfl (m_isMember (by omega) hr hS (fun v8 e8 b8 => ?_))
    refine go_iconst (y := mX11_placeInList) (pc := 11) dX11_placeInList_11 ?_
    refine go_callV2 (y := mX11_placeInList) (pc := 12) (y' := mX11_right) (kc2 := 0) (ks2 := 0) dX11_placeInList_12 ml_X11_167 ok_X11_right (show shp 276 = _ from rfl) ⟨_, _, rfl⟩ (by decide) ⟨rfl, rfl⟩ (by decide) (Nat.le_of_ble_eq_true rfl) rfl (m_right h7 (by omega) (by decide) (fun v12 e12 g12 => ?_) (fun g12 => ?_))
    · skip
      refine go_if_eq (y := mX11_placeInList) (pc := 15) (tgt := 26) dX11_placeInList_15 (by decide) (by omega) (fun h15 => ?_) (fun h15 => ?_)
      · skip
        exact absurd h15 (by omega)
      · skip
        refine go_aload_n (y := mX11_placeInList) (pc := 18) dX11_placeInList_18 rfl rfl ?_
        refine go_iload_n (y := mX11_placeInList) (pc := 19) dX11_placeInList_19 rfl rfl ?_
        refine go_callV1 (y := mX11_placeInList) (pc := 20) (y' := mX11_listedAt) (kc2 := 0) (ks2 := 0) dX11_placeInList_20 ml_X11_351 ok_X11_listedAt (show shp 276 = _ from rfl) ⟨_, _, rfl⟩ (by decide) rfl (by decide) (Nat.le_of_ble_eq_true rfl) rfl (m_listedAt (by omega) hr hS hC (fun v20 e20 b20 => ?_))
        refine go_goto (y := mX11_placeInList) (pc := 23) (tgt := 27) dX11_placeInList_23 (by decide) ?_
        refine go_ireturn (y := mX11_placeInList) (pc := 27) dX11_placeInList_27 rfl ?_
        rw [e20]
        exact K k rfl (by omega)
    · skip
      exact absurd g (bI_0 e8 g12)
  · skip
    refine go_aload_n (y := mX11_placeInList) (pc := 0) dX11_placeInList_0 rfl rfl ?_
    refine go_iconst (y := mX11_placeInList) (pc := 1) dX11_placeInList_1 ?_
    refine go_mput (y := mX11_placeInList) (pc := 2) dX11_placeInList_2 fp_X11_83 rfl rfl (by decide) (by omega) ?_
    refine go_aload_n (y := mX11_placeInList) (pc := 5) dX11_placeInList_5 rfl rfl ?_
    refine go_aload_n (y := mX11_placeInList) (pc := 6) dX11_placeInList_6 rfl rfl ?_
    refine go_iload_n (y := mX11_placeInList) (pc := 7) dX11_placeInList_7 rfl rfl ?_
    refine go_callV1 (y := mX11_placeInList) (pc := 8) (y' := mX11_isMember) (kc2 := 0) (ks2 := 0) dX11_placeInList_8 ml_X11_339 ok_X11_isMember (show shp 276 = _ from rfl) ⟨_, _, rfl⟩ (by decide) rfl (by decide) (Nat.le_of_ble_eq_true rfl) rfl (m_isMember (by omega) hr hS (fun v8 e8 b8 => ?_))
    refine go_iconst (y := mX11_placeInList) (pc := 11) dX11_placeInList_11 ?_
    refine go_callV2 (y := mX11_placeInList) (pc := 12) (y' := mX11_right) (kc2 := 0) (ks2 := 0) dX11_placeInList_12 ml_X11_167 ok_X11_right (show shp 276 = _ from rfl) ⟨_, _, rfl⟩ (by decide) ⟨rfl, rfl⟩ (by decide) (Nat.le_of_ble_eq_true rfl) rfl (m_right h7 (by omega) (by decide) (fun v12 e12 g12 => ?_) (fun g12 => ?_))
    · skip
      exact absurd (bI_1 e8 (by omega)) g
    · skip
      refine go_if_eq (y := mX11_placeInList) (pc := 15) (tgt := 26) dX11_placeInList_15 (by decide) (by omega) (fun h15 => ?_) (fun h15 => ?_)
      · skip
        refine go_iconst (y := mX11_placeInList) (pc := 26) dX11_placeInList_26 ?_
        refine go_ireturn (y := mX11_placeInList) (pc := 27) dX11_placeInList_27 rfl ?_
        exact K2 g
      · skip
        exact absurd rfl h15
set_option maxRecDepth 8000 in
set_option maxHeartbeats 4000000 in
theorem m_weight {m : Int} (hm : rng m) (hr : rel S s ν) (hS : wfS S) (hC : wfC S s) {Q : Option Value → Mem → Prop} {X : String → Mem → Prop} (K : ∀ k : Nat, m = k → (k : Int) < S 0 7 → Q (some (.int (iI (S 2 k)))) (md (wr σ 0 7 0) ν μ)) (K2 : ¬ (0 ≤ m ∧ m < S 0 7) → Q (some (.int (iI 0))) (md (wr (wr σ 0 7 0) 0 7 1) ν μ)) : mt 289 3 0 0 mX11_weight [.ref 276, .int (iI m)] Q X (md σ ν μ) := by
  show go 289 3 0 0 mX11_weight Q X 0 [.ref 276, .int (iI m)] [] _
  refine go_aload_n (y := mX11_weight) (pc := 0) dX11_weight_0 rfl rfl ?_
  refine go_iload_n (y := mX11_weight) (pc := 1) dX11_weight_1 rfl rfl ?_
  refine go_iconst (y := mX11_weight) (pc := 2) dX11_weight_2 ?_
  refine go_callV2 (y := mX11_weight) (pc := 3) (y' := mX11_asked) (kc2 := 0) (ks2 := 0) dX11_weight_3 ml_X11_342 ok_X11_asked (show shp 276 = _ from rfl) ⟨_, _, rfl⟩ (by decide) ⟨rfl, rfl⟩ (by decide) (Nat.le_of_ble_eq_true rfl) rfl (m_asked (w := 1) (by decide) hm hr hS hC (fun k hk hk2 v ev => ?_) (fun g => ?_))
  · skip
    refine go_ireturn (y := mX11_weight) (pc := 6) dX11_weight_6 rfl ?_
    rw [ev.trans (rlW hr hk2)]
    exact K k hk hk2
  · skip
    refine go_ireturn (y := mX11_weight) (pc := 6) dX11_weight_6 rfl ?_
    exact K2 g
set_option maxRecDepth 8000 in
set_option maxHeartbeats 4000000 in
theorem m_purse {m : Int} (hm : rng m) (hr : rel S s ν) (hS : wfS S) (hC : wfC S s) {Q : Option Value → Mem → Prop} {X : String → Mem → Prop} (K : ∀ k : Nat, m = k → (k : Int) < S 0 7 → Q (some (.int (iI (s 2 k)))) (md (wr σ 0 7 0) ν μ)) (K2 : ¬ (0 ≤ m ∧ m < S 0 7) → Q (some (.int (iI 0))) (md (wr (wr σ 0 7 0) 0 7 1) ν μ)) : mt 289 3 0 0 mX11_purse [.ref 276, .int (iI m)] Q X (md σ ν μ) := by
  show go 289 3 0 0 mX11_purse Q X 0 [.ref 276, .int (iI m)] [] _
  refine go_aload_n (y := mX11_purse) (pc := 0) dX11_purse_0 rfl rfl ?_
  refine go_iload_n (y := mX11_purse) (pc := 1) dX11_purse_1 rfl rfl ?_
  refine go_iconst (y := mX11_purse) (pc := 2) dX11_purse_2 ?_
  refine go_callV2 (y := mX11_purse) (pc := 3) (y' := mX11_asked) (kc2 := 0) (ks2 := 0) dX11_purse_3 ml_X11_342 ok_X11_asked (show shp 276 = _ from rfl) ⟨_, _, rfl⟩ (by decide) ⟨rfl, rfl⟩ (by decide) (Nat.le_of_ble_eq_true rfl) rfl (m_asked (w := 3) (by decide) hm hr hS hC (fun k hk hk2 v ev => ?_) (fun g => ?_))
  · skip
    refine go_ireturn (y := mX11_purse) (pc := 6) dX11_purse_6 rfl ?_
    rw [ev.trans (rlC hr hk2)]
    exact K k hk hk2
  · skip
    refine go_ireturn (y := mX11_purse) (pc := 6) dX11_purse_6 rfl ?_
    exact K2 g
set_option maxRecDepth 8000 in
set_option maxHeartbeats 4000000 in
theorem m_sharpness {m : Int} (hm : rng m) (hr : rel S s ν) (hS : wfS S) (hC : wfC S s) {Q : Option Value → Mem → Prop} {X : String → Mem → Prop} (K : ∀ k : Nat, m = k → (k : Int) < S 0 7 → Q (some (.int (iI (s 3 k)))) (md (wr σ 0 7 0) ν μ)) (K2 : ¬ (0 ≤ m ∧ m < S 0 7) → Q (some (.int (iI 0))) (md (wr (wr σ 0 7 0) 0 7 1) ν μ)) : mt 289 3 0 0 mX11_sharpness [.ref 276, .int (iI m)] Q X (md σ ν μ) := by
  show go 289 3 0 0 mX11_sharpness Q X 0 [.ref 276, .int (iI m)] [] _
  refine go_aload_n (y := mX11_sharpness) (pc := 0) dX11_sharpness_0 rfl rfl ?_
  refine go_iload_n (y := mX11_sharpness) (pc := 1) dX11_sharpness_1 rfl rfl ?_
  refine go_iconst (y := mX11_sharpness) (pc := 2) dX11_sharpness_2 ?_
  refine go_callV2 (y := mX11_sharpness) (pc := 3) (y' := mX11_asked) (kc2 := 0) (ks2 := 0) dX11_sharpness_3 ml_X11_342 ok_X11_asked (show shp 276 = _ from rfl) ⟨_, _, rfl⟩ (by decide) ⟨rfl, rfl⟩ (by decide) (Nat.le_of_ble_eq_true rfl) rfl (m_asked (w := 4) (by decide) hm hr hS hC (fun k hk hk2 v ev => ?_) (fun g => ?_))
  · skip
    refine go_ireturn (y := mX11_sharpness) (pc := 6) dX11_sharpness_6 rfl ?_
    rw [ev.trans (rlR hr hk2)]
    exact K k hk hk2
  · skip
    refine go_ireturn (y := mX11_sharpness) (pc := 6) dX11_sharpness_6 rfl ?_
    exact K2 g
set_option maxRecDepth 8000 in
set_option maxHeartbeats 4000000 in
theorem m_speechesOf {m : Int} (hm : rng m) (hr : rel S s ν) (hS : wfS S) (hC : wfC S s) {Q : Option Value → Mem → Prop} {X : String → Mem → Prop} (K : ∀ k : Nat, m = k → (k : Int) < S 0 7 → Q (some (.int (iI (s 4 k)))) (md (wr σ 0 7 0) ν μ)) (K2 : ¬ (0 ≤ m ∧ m < S 0 7) → Q (some (.int (iI 0))) (md (wr (wr σ 0 7 0) 0 7 1) ν μ)) : mt 289 3 0 0 mX11_speechesOf [.ref 276, .int (iI m)] Q X (md σ ν μ) := by
  show go 289 3 0 0 mX11_speechesOf Q X 0 [.ref 276, .int (iI m)] [] _
  refine go_aload_n (y := mX11_speechesOf) (pc := 0) dX11_speechesOf_0 rfl rfl ?_
  refine go_iload_n (y := mX11_speechesOf) (pc := 1) dX11_speechesOf_1 rfl rfl ?_
  refine go_iconst (y := mX11_speechesOf) (pc := 2) dX11_speechesOf_2 ?_
  refine go_callV2 (y := mX11_speechesOf) (pc := 3) (y' := mX11_asked) (kc2 := 0) (ks2 := 0) dX11_speechesOf_3 ml_X11_342 ok_X11_asked (show shp 276 = _ from rfl) ⟨_, _, rfl⟩ (by decide) ⟨rfl, rfl⟩ (by decide) (Nat.le_of_ble_eq_true rfl) rfl (m_asked (w := 5) (by decide) hm hr hS hC (fun k hk hk2 v ev => ?_) (fun g => ?_))
  · skip
    refine go_ireturn (y := mX11_speechesOf) (pc := 6) dX11_speechesOf_6 rfl ?_
    rw [ev.trans (rlT hr hk2)]
    exact K k hk hk2
  · skip
    refine go_ireturn (y := mX11_speechesOf) (pc := 6) dX11_speechesOf_6 rfl ?_
    exact K2 g
set_option maxRecDepth 8000 in
set_option maxHeartbeats 4000000 in
theorem m_proposer {m : Int} (hm : rng m) (hr : rel S s ν) (hS : wfS S) (hC : wfC S s) {Q : Option Value → Mem → Prop} {X : String → Mem → Prop} (K : ∀ k : Nat, m = k → (k : Int) < s 5 0 → Q (some (.int (iI (s 6 k)))) (md (wr σ 0 7 0) ν μ)) (K2 : ¬ (0 ≤ m ∧ m < s 5 0) → Q (some (.int (iI 0))) (md (wr (wr σ 0 7 0) 0 7 1) ν μ)) : mt 289 4 0 0 mX11_proposer [.ref 276, .int (iI m)] Q X (md σ ν μ) := by
  show go 289 4 0 0 mX11_proposer Q X 0 [.ref 276, .int (iI m)] [] _
  obtain ⟨n1, n12, c1, c4⟩ := wf_n hS
  obtain ⟨q0, q16, r0, r12⟩ := wf_r hS hC
  have h7 := z7 σ
  by_cases g : 0 ≤ m ∧ m < s 5 0
  · obtain ⟨k, rfl⟩ := Int.eq_ofNat_of_zero_le g.1
    have g2 := g.2
    refine go_aload_n (y := mX11_proposer) (pc := 0) dX11_proposer_0 rfl rfl ?_
    refine go_iload_n (y := mX11_proposer) (pc := 1) dX11_proposer_1 rfl rfl ?_
    refine go_callV1 (y := mX11_proposer) (pc := 2) (y' := mX11_finds) (kc2 := 0) (ks2 := 0) dX11_proposer_2 ml_X11_354 ok_X11_finds (show shp 276 = _ from rfl) ⟨_, _, rfl⟩ (by decide) rfl (by decide) (Nat.le_of_ble_eq_true rfl) rfl (m_finds (by omega) hr hS hC (fun _ => ?_) (fun h9 => absurd g h9))
    refine go_if_eq (y := mX11_proposer) (pc := 5) (tgt := 17) dX11_proposer_5 (by decide) (by omega) (fun h5 => ?_) (fun h5 => ?_)
    · skip
      exact absurd h5 (by decide)
    · skip
      refine go_aload_n (y := mX11_proposer) (pc := 8) dX11_proposer_8 rfl rfl ?_
      refine go_iload_n (y := mX11_proposer) (pc := 9) dX11_proposer_9 rfl rfl ?_
      refine go_iconst (y := mX11_proposer) (pc := 10) dX11_proposer_10 ?_
      refine go_callV2 (y := mX11_proposer) (pc := 11) (y' := mX11_ofM) (kc2 := 0) (ks2 := 0) dX11_proposer_11 ml_X11_90 ok_X11_ofM (show shp 276 = _ from rfl) ⟨_, _, rfl⟩ (by decide) ⟨rfl, rfl⟩ (by decide) (Nat.le_of_ble_eq_true rfl) rfl (m_ofM (q := k) (w := 0) (by omega) (by decide) (fun v11 e11 r11 => ?_))
      refine go_goto (y := mX11_proposer) (pc := 14) (tgt := 18) dX11_proposer_14 (by decide) ?_
      refine go_ireturn (y := mX11_proposer) (pc := 18) dX11_proposer_18 rfl ?_
      rw [e11.trans (rqP hr g2)]
      exact K k rfl (by omega)
  · skip
    refine go_aload_n (y := mX11_proposer) (pc := 0) dX11_proposer_0 rfl rfl ?_
    refine go_iload_n (y := mX11_proposer) (pc := 1) dX11_proposer_1 rfl rfl ?_
    refine go_callV1 (y := mX11_proposer) (pc := 2) (y' := mX11_finds) (kc2 := 0) (ks2 := 0) dX11_proposer_2 ml_X11_354 ok_X11_finds (show shp 276 = _ from rfl) ⟨_, _, rfl⟩ (by decide) rfl (by decide) (Nat.le_of_ble_eq_true rfl) rfl (m_finds (by omega) hr hS hC (fun h9 => absurd h9 g) (fun _ => ?_))
    refine go_if_eq (y := mX11_proposer) (pc := 5) (tgt := 17) dX11_proposer_5 (by decide) (by omega) (fun h5 => ?_) (fun h5 => ?_)
    · skip
      refine go_iconst (y := mX11_proposer) (pc := 17) dX11_proposer_17 ?_
      refine go_ireturn (y := mX11_proposer) (pc := 18) dX11_proposer_18 rfl ?_
      exact K2 g
    · skip
      exact absurd rfl h5
set_option maxRecDepth 8000 in
set_option maxHeartbeats 4000000 in
theorem m_motionState {m : Int} (hm : rng m) (hr : rel S s ν) (hS : wfS S) (hC : wfC S s) {Q : Option Value → Mem → Prop} {X : String → Mem → Prop} (K : ∀ k : Nat, m = k → (k : Int) < s 5 0 → Q (some (.int (iI (s 7 k)))) (md (wr σ 0 7 0) ν μ)) (K2 : ¬ (0 ≤ m ∧ m < s 5 0) → Q (some (.int (iI 0))) (md (wr (wr σ 0 7 0) 0 7 1) ν μ)) : mt 289 4 0 0 mX11_motionState [.ref 276, .int (iI m)] Q X (md σ ν μ) := by
  show go 289 4 0 0 mX11_motionState Q X 0 [.ref 276, .int (iI m)] [] _
  obtain ⟨n1, n12, c1, c4⟩ := wf_n hS
  obtain ⟨q0, q16, r0, r12⟩ := wf_r hS hC
  have h7 := z7 σ
  by_cases g : 0 ≤ m ∧ m < s 5 0
  · obtain ⟨k, rfl⟩ := Int.eq_ofNat_of_zero_le g.1
    have g2 := g.2
    refine go_aload_n (y := mX11_motionState) (pc := 0) dX11_motionState_0 rfl rfl ?_
    refine go_iload_n (y := mX11_motionState) (pc := 1) dX11_motionState_1 rfl rfl ?_
    refine go_callV1 (y := mX11_motionState) (pc := 2) (y' := mX11_finds) (kc2 := 0) (ks2 := 0) dX11_motionState_2 ml_X11_354 ok_X11_finds (show shp 276 = _ from rfl) ⟨_, _, rfl⟩ (by decide) rfl (by decide) (Nat.le_of_ble_eq_true rfl) rfl (m_finds (by omega) hr hS hC (fun _ => ?_) (fun h9 => absurd g h9))
    refine go_if_eq (y := mX11_motionState) (pc := 5) (tgt := 17) dX11_motionState_5 (by decide) (by omega) (fun h5 => ?_) (fun h5 => ?_)
    · skip
      exact absurd h5 (by decide)
    · skip
      refine go_aload_n (y := mX11_motionState) (pc := 8) dX11_motionState_8 rfl rfl ?_
      refine go_iload_n (y := mX11_motionState) (pc := 9) dX11_motionState_9 rfl rfl ?_
      refine go_iconst (y := mX11_motionState) (pc := 10) dX11_motionState_10 ?_
      refine go_callV2 (y := mX11_motionState) (pc := 11) (y' := mX11_ofM) (kc2 := 0) (ks2 := 0) dX11_motionState_11 ml_X11_90 ok_X11_ofM (show shp 276 = _ from rfl) ⟨_, _, rfl⟩ (by decide) ⟨rfl, rfl⟩ (by decide) (Nat.le_of_ble_eq_true rfl) rfl (m_ofM (q := k) (w := 3) (by omega) (by decide) (fun v11 e11 r11 => ?_))
      refine go_goto (y := mX11_motionState) (pc := 14) (tgt := 18) dX11_motionState_14 (by decide) ?_
      refine go_ireturn (y := mX11_motionState) (pc := 18) dX11_motionState_18 rfl ?_
      rw [e11.trans (rqS hr g2)]
      exact K k rfl (by omega)
  · skip
    refine go_aload_n (y := mX11_motionState) (pc := 0) dX11_motionState_0 rfl rfl ?_
    refine go_iload_n (y := mX11_motionState) (pc := 1) dX11_motionState_1 rfl rfl ?_
    refine go_callV1 (y := mX11_motionState) (pc := 2) (y' := mX11_finds) (kc2 := 0) (ks2 := 0) dX11_motionState_2 ml_X11_354 ok_X11_finds (show shp 276 = _ from rfl) ⟨_, _, rfl⟩ (by decide) rfl (by decide) (Nat.le_of_ble_eq_true rfl) rfl (m_finds (by omega) hr hS hC (fun h9 => absurd h9 g) (fun _ => ?_))
    refine go_if_eq (y := mX11_motionState) (pc := 5) (tgt := 17) dX11_motionState_5 (by decide) (by omega) (fun h5 => ?_) (fun h5 => ?_)
    · skip
      refine go_iconst (y := mX11_motionState) (pc := 17) dX11_motionState_17 ?_
      refine go_ireturn (y := mX11_motionState) (pc := 18) dX11_motionState_18 rfl ?_
      exact K2 g
    · skip
      exact absurd rfl h5
set_option maxRecDepth 8000 in
set_option maxHeartbeats 4000000 in
theorem m_lather {m : Int} (hm : rng m) (hr : rel S s ν) (hS : wfS S) (hC : wfC S s) {Q : Option Value → Mem → Prop} {X : String → Mem → Prop} (K : ∀ k : Nat, m = k → (k : Int) < s 5 0 → Q (some (.int (iI (s 8 k)))) (md (wr σ 0 7 0) ν μ)) (K2 : ¬ (0 ≤ m ∧ m < s 5 0) → Q (some (.int (iI 0))) (md (wr (wr σ 0 7 0) 0 7 1) ν μ)) : mt 289 4 0 0 mX11_lather [.ref 276, .int (iI m)] Q X (md σ ν μ) := by
  show go 289 4 0 0 mX11_lather Q X 0 [.ref 276, .int (iI m)] [] _
  obtain ⟨n1, n12, c1, c4⟩ := wf_n hS
  obtain ⟨q0, q16, r0, r12⟩ := wf_r hS hC
  have h7 := z7 σ
  by_cases g : 0 ≤ m ∧ m < s 5 0
  · obtain ⟨k, rfl⟩ := Int.eq_ofNat_of_zero_le g.1
    have g2 := g.2
    refine go_aload_n (y := mX11_lather) (pc := 0) dX11_lather_0 rfl rfl ?_
    refine go_iload_n (y := mX11_lather) (pc := 1) dX11_lather_1 rfl rfl ?_
    refine go_callV1 (y := mX11_lather) (pc := 2) (y' := mX11_finds) (kc2 := 0) (ks2 := 0) dX11_lather_2 ml_X11_354 ok_X11_finds (show shp 276 = _ from rfl) ⟨_, _, rfl⟩ (by decide) rfl (by decide) (Nat.le_of_ble_eq_true rfl) rfl (m_finds (by omega) hr hS hC (fun _ => ?_) (fun h9 => absurd g h9))
    refine go_if_eq (y := mX11_lather) (pc := 5) (tgt := 17) dX11_lather_5 (by decide) (by omega) (fun h5 => ?_) (fun h5 => ?_)
    · skip
      exact absurd h5 (by decide)
    · skip
      refine go_aload_n (y := mX11_lather) (pc := 8) dX11_lather_8 rfl rfl ?_
      refine go_iload_n (y := mX11_lather) (pc := 9) dX11_lather_9 rfl rfl ?_
      refine go_iconst (y := mX11_lather) (pc := 10) dX11_lather_10 ?_
      refine go_callV2 (y := mX11_lather) (pc := 11) (y' := mX11_ofM) (kc2 := 0) (ks2 := 0) dX11_lather_11 ml_X11_90 ok_X11_ofM (show shp 276 = _ from rfl) ⟨_, _, rfl⟩ (by decide) ⟨rfl, rfl⟩ (by decide) (Nat.le_of_ble_eq_true rfl) rfl (m_ofM (q := k) (w := 2) (by omega) (by decide) (fun v11 e11 r11 => ?_))
      refine go_goto (y := mX11_lather) (pc := 14) (tgt := 18) dX11_lather_14 (by decide) ?_
      refine go_ireturn (y := mX11_lather) (pc := 18) dX11_lather_18 rfl ?_
      rw [e11.trans (rqL hr g2)]
      exact K k rfl (by omega)
  · skip
    refine go_aload_n (y := mX11_lather) (pc := 0) dX11_lather_0 rfl rfl ?_
    refine go_iload_n (y := mX11_lather) (pc := 1) dX11_lather_1 rfl rfl ?_
    refine go_callV1 (y := mX11_lather) (pc := 2) (y' := mX11_finds) (kc2 := 0) (ks2 := 0) dX11_lather_2 ml_X11_354 ok_X11_finds (show shp 276 = _ from rfl) ⟨_, _, rfl⟩ (by decide) rfl (by decide) (Nat.le_of_ble_eq_true rfl) rfl (m_finds (by omega) hr hS hC (fun h9 => absurd h9 g) (fun _ => ?_))
    refine go_if_eq (y := mX11_lather) (pc := 5) (tgt := 17) dX11_lather_5 (by decide) (by omega) (fun h5 => ?_) (fun h5 => ?_)
    · skip
      refine go_iconst (y := mX11_lather) (pc := 17) dX11_lather_17 ?_
      refine go_ireturn (y := mX11_lather) (pc := 18) dX11_lather_18 rfl ?_
      exact K2 g
    · skip
      exact absurd rfl h5
set_option maxRecDepth 8000 in
set_option maxHeartbeats 4000000 in
theorem m_weightFor {m : Int} (hm : rng m) (hr : rel S s ν) (hS : wfS S) (hC : wfC S s) {Q : Option Value → Mem → Prop} {X : String → Mem → Prop} (K : ∀ k : Nat, m = k → (k : Int) < s 5 0 → Q (some (.int (iI (wvt S s k 1)))) (md (wr σ 0 7 0) ν μ)) (K2 : ¬ (0 ≤ m ∧ m < s 5 0) → Q (some (.int (iI 0))) (md (wr (wr σ 0 7 0) 0 7 1) ν μ)) : mt 289 4 0 0 mX11_weightFor [.ref 276, .int (iI m)] Q X (md σ ν μ) := by
  show go 289 4 0 0 mX11_weightFor Q X 0 [.ref 276, .int (iI m)] [] _
  obtain ⟨n1, n12, c1, c4⟩ := wf_n hS
  obtain ⟨q0, q16, r0, r12⟩ := wf_r hS hC
  have h7 := z7 σ
  by_cases g : 0 ≤ m ∧ m < s 5 0
  · obtain ⟨k, rfl⟩ := Int.eq_ofNat_of_zero_le g.1
    have g2 := g.2
    refine go_aload_n (y := mX11_weightFor) (pc := 0) dX11_weightFor_0 rfl rfl ?_
    refine go_iload_n (y := mX11_weightFor) (pc := 1) dX11_weightFor_1 rfl rfl ?_
    refine go_callV1 (y := mX11_weightFor) (pc := 2) (y' := mX11_finds) (kc2 := 0) (ks2 := 0) dX11_weightFor_2 ml_X11_354 ok_X11_finds (show shp 276 = _ from rfl) ⟨_, _, rfl⟩ (by decide) rfl (by decide) (Nat.le_of_ble_eq_true rfl) rfl (m_finds (by omega) hr hS hC (fun _ => ?_) (fun h9 => absurd g h9))
    refine go_if_eq (y := mX11_weightFor) (pc := 5) (tgt := 17) dX11_weightFor_5 (by decide) (by omega) (fun h5 => ?_) (fun h5 => ?_)
    · skip
      exact absurd h5 (by decide)
    · skip
      refine go_aload_n (y := mX11_weightFor) (pc := 8) dX11_weightFor_8 rfl rfl ?_
      refine go_iload_n (y := mX11_weightFor) (pc := 9) dX11_weightFor_9 rfl rfl ?_
      refine go_iconst (y := mX11_weightFor) (pc := 10) dX11_weightFor_10 ?_
      refine go_callV2 (y := mX11_weightFor) (pc := 11) (y' := mX11_heft) (kc2 := 0) (ks2 := 0) dX11_weightFor_11 ml_X11_154 ok_X11_heft (show shp 276 = _ from rfl) ⟨_, _, rfl⟩ (by decide) ⟨rfl, rfl⟩ (by decide) (Nat.le_of_ble_eq_true rfl) rfl (m_heft (q := k) (by omega) (by omega) hS hC hr (fun v11 e11 b11 => ?_))
      refine go_goto (y := mX11_weightFor) (pc := 14) (tgt := 18) dX11_weightFor_14 (by decide) ?_
      refine go_ireturn (y := mX11_weightFor) (pc := 18) dX11_weightFor_18 rfl ?_
      have ev := e11
      rw [if_pos rfl] at ev
      rw [ev]
      exact K k rfl (by omega)
  · skip
    refine go_aload_n (y := mX11_weightFor) (pc := 0) dX11_weightFor_0 rfl rfl ?_
    refine go_iload_n (y := mX11_weightFor) (pc := 1) dX11_weightFor_1 rfl rfl ?_
    refine go_callV1 (y := mX11_weightFor) (pc := 2) (y' := mX11_finds) (kc2 := 0) (ks2 := 0) dX11_weightFor_2 ml_X11_354 ok_X11_finds (show shp 276 = _ from rfl) ⟨_, _, rfl⟩ (by decide) rfl (by decide) (Nat.le_of_ble_eq_true rfl) rfl (m_finds (by omega) hr hS hC (fun h9 => absurd h9 g) (fun _ => ?_))
    refine go_if_eq (y := mX11_weightFor) (pc := 5) (tgt := 17) dX11_weightFor_5 (by decide) (by omega) (fun h5 => ?_) (fun h5 => ?_)
    · skip
      refine go_iconst (y := mX11_weightFor) (pc := 17) dX11_weightFor_17 ?_
      refine go_ireturn (y := mX11_weightFor) (pc := 18) dX11_weightFor_18 rfl ?_
      exact K2 g
    · skip
      exact absurd rfl h5
set_option maxRecDepth 8000 in
set_option maxHeartbeats 4000000 in
theorem m_weightAgainst {m : Int} (hm : rng m) (hr : rel S s ν) (hS : wfS S) (hC : wfC S s) {Q : Option Value → Mem → Prop} {X : String → Mem → Prop} (K : ∀ k : Nat, m = k → (k : Int) < s 5 0 → Q (some (.int (iI (wvt S s k (-1))))) (md (wr σ 0 7 0) ν μ)) (K2 : ¬ (0 ≤ m ∧ m < s 5 0) → Q (some (.int (iI 0))) (md (wr (wr σ 0 7 0) 0 7 1) ν μ)) : mt 289 4 0 0 mX11_weightAgainst [.ref 276, .int (iI m)] Q X (md σ ν μ) := by
  show go 289 4 0 0 mX11_weightAgainst Q X 0 [.ref 276, .int (iI m)] [] _
  obtain ⟨n1, n12, c1, c4⟩ := wf_n hS
  obtain ⟨q0, q16, r0, r12⟩ := wf_r hS hC
  have h7 := z7 σ
  by_cases g : 0 ≤ m ∧ m < s 5 0
  · obtain ⟨k, rfl⟩ := Int.eq_ofNat_of_zero_le g.1
    have g2 := g.2
    refine go_aload_n (y := mX11_weightAgainst) (pc := 0) dX11_weightAgainst_0 rfl rfl ?_
    refine go_iload_n (y := mX11_weightAgainst) (pc := 1) dX11_weightAgainst_1 rfl rfl ?_
    refine go_callV1 (y := mX11_weightAgainst) (pc := 2) (y' := mX11_finds) (kc2 := 0) (ks2 := 0) dX11_weightAgainst_2 ml_X11_354 ok_X11_finds (show shp 276 = _ from rfl) ⟨_, _, rfl⟩ (by decide) rfl (by decide) (Nat.le_of_ble_eq_true rfl) rfl (m_finds (by omega) hr hS hC (fun _ => ?_) (fun h9 => absurd g h9))
    refine go_if_eq (y := mX11_weightAgainst) (pc := 5) (tgt := 17) dX11_weightAgainst_5 (by decide) (by omega) (fun h5 => ?_) (fun h5 => ?_)
    · skip
      exact absurd h5 (by decide)
    · skip
      refine go_aload_n (y := mX11_weightAgainst) (pc := 8) dX11_weightAgainst_8 rfl rfl ?_
      refine go_iload_n (y := mX11_weightAgainst) (pc := 9) dX11_weightAgainst_9 rfl rfl ?_
      refine go_iconst (y := mX11_weightAgainst) (pc := 10) dX11_weightAgainst_10 ?_
      refine go_callV2 (y := mX11_weightAgainst) (pc := 11) (y' := mX11_heft) (kc2 := 0) (ks2 := 0) dX11_weightAgainst_11 ml_X11_154 ok_X11_heft (show shp 276 = _ from rfl) ⟨_, _, rfl⟩ (by decide) ⟨rfl, rfl⟩ (by decide) (Nat.le_of_ble_eq_true rfl) rfl (m_heft (q := k) (by omega) (by omega) hS hC hr (fun v11 e11 b11 => ?_))
      refine go_goto (y := mX11_weightAgainst) (pc := 14) (tgt := 18) dX11_weightAgainst_14 (by decide) ?_
      refine go_ireturn (y := mX11_weightAgainst) (pc := 18) dX11_weightAgainst_18 rfl ?_
      have ev := e11
      rw [if_neg (by decide)] at ev
      rw [ev]
      exact K k rfl (by omega)
  · skip
    refine go_aload_n (y := mX11_weightAgainst) (pc := 0) dX11_weightAgainst_0 rfl rfl ?_
    refine go_iload_n (y := mX11_weightAgainst) (pc := 1) dX11_weightAgainst_1 rfl rfl ?_
    refine go_callV1 (y := mX11_weightAgainst) (pc := 2) (y' := mX11_finds) (kc2 := 0) (ks2 := 0) dX11_weightAgainst_2 ml_X11_354 ok_X11_finds (show shp 276 = _ from rfl) ⟨_, _, rfl⟩ (by decide) rfl (by decide) (Nat.le_of_ble_eq_true rfl) rfl (m_finds (by omega) hr hS hC (fun h9 => absurd h9 g) (fun _ => ?_))
    refine go_if_eq (y := mX11_weightAgainst) (pc := 5) (tgt := 17) dX11_weightAgainst_5 (by decide) (by omega) (fun h5 => ?_) (fun h5 => ?_)
    · skip
      refine go_iconst (y := mX11_weightAgainst) (pc := 17) dX11_weightAgainst_17 ?_
      refine go_ireturn (y := mX11_weightAgainst) (pc := 18) dX11_weightAgainst_18 rfl ?_
      exact K2 g
    · skip
      exact absurd rfl h5
set_option maxRecDepth 8000 in
set_option maxHeartbeats 4000000 in
theorem m_voterCount {m : Int} (hm : rng m) (hr : rel S s ν) (hS : wfS S) (hC : wfC S s) {Q : Option Value → Mem → Prop} {X : String → Mem → Prop} (K : ∀ k : Nat, m = k → (k : Int) < s 5 0 → Q (some (.int (iI (nvt S s k)))) (md (wr σ 0 7 0) ν μ)) (K2 : ¬ (0 ≤ m ∧ m < s 5 0) → Q (some (.int (iI 0))) (md (wr (wr σ 0 7 0) 0 7 1) ν μ)) : mt 289 4 0 0 mX11_voterCount [.ref 276, .int (iI m)] Q X (md σ ν μ) := by
  show go 289 4 0 0 mX11_voterCount Q X 0 [.ref 276, .int (iI m)] [] _
  obtain ⟨n1, n12, c1, c4⟩ := wf_n hS
  obtain ⟨q0, q16, r0, r12⟩ := wf_r hS hC
  have h7 := z7 σ
  by_cases g : 0 ≤ m ∧ m < s 5 0
  · obtain ⟨k, rfl⟩ := Int.eq_ofNat_of_zero_le g.1
    have g2 := g.2
    refine go_aload_n (y := mX11_voterCount) (pc := 0) dX11_voterCount_0 rfl rfl ?_
    refine go_iload_n (y := mX11_voterCount) (pc := 1) dX11_voterCount_1 rfl rfl ?_
    refine go_callV1 (y := mX11_voterCount) (pc := 2) (y' := mX11_finds) (kc2 := 0) (ks2 := 0) dX11_voterCount_2 ml_X11_354 ok_X11_finds (show shp 276 = _ from rfl) ⟨_, _, rfl⟩ (by decide) rfl (by decide) (Nat.le_of_ble_eq_true rfl) rfl (m_finds (by omega) hr hS hC (fun _ => ?_) (fun h9 => absurd g h9))
    refine go_if_eq (y := mX11_voterCount) (pc := 5) (tgt := 16) dX11_voterCount_5 (by decide) (by omega) (fun h5 => ?_) (fun h5 => ?_)
    · skip
      exact absurd h5 (by decide)
    · skip
      refine go_aload_n (y := mX11_voterCount) (pc := 8) dX11_voterCount_8 rfl rfl ?_
      refine go_iload_n (y := mX11_voterCount) (pc := 9) dX11_voterCount_9 rfl rfl ?_
      refine go_callV1 (y := mX11_voterCount) (pc := 10) (y' := mX11_voters) (kc2 := 0) (ks2 := 0) dX11_voterCount_10 ml_X11_161 ok_X11_voters (show shp 276 = _ from rfl) ⟨_, _, rfl⟩ (by decide) rfl (by decide) (Nat.le_of_ble_eq_true rfl) rfl (m_voters (q := k) (by omega) hS hC hr (fun v10 e10 b10 => ?_))
      refine go_goto (y := mX11_voterCount) (pc := 13) (tgt := 17) dX11_voterCount_13 (by decide) ?_
      refine go_ireturn (y := mX11_voterCount) (pc := 17) dX11_voterCount_17 rfl ?_
      have ev := e10
      rw [ev]
      exact K k rfl (by omega)
  · skip
    refine go_aload_n (y := mX11_voterCount) (pc := 0) dX11_voterCount_0 rfl rfl ?_
    refine go_iload_n (y := mX11_voterCount) (pc := 1) dX11_voterCount_1 rfl rfl ?_
    refine go_callV1 (y := mX11_voterCount) (pc := 2) (y' := mX11_finds) (kc2 := 0) (ks2 := 0) dX11_voterCount_2 ml_X11_354 ok_X11_finds (show shp 276 = _ from rfl) ⟨_, _, rfl⟩ (by decide) rfl (by decide) (Nat.le_of_ble_eq_true rfl) rfl (m_finds (by omega) hr hS hC (fun h9 => absurd h9 g) (fun _ => ?_))
    refine go_if_eq (y := mX11_voterCount) (pc := 5) (tgt := 16) dX11_voterCount_5 (by decide) (by omega) (fun h5 => ?_) (fun h5 => ?_)
    · skip
      refine go_iconst (y := mX11_voterCount) (pc := 16) dX11_voterCount_16 ?_
      refine go_ireturn (y := mX11_voterCount) (pc := 17) dX11_voterCount_17 rfl ?_
      exact K2 g
    · skip
      exact absurd rfl h5
set_option maxRecDepth 8000 in
set_option maxHeartbeats 4000000 in
theorem m_obstacle {m : Int} (hm : rng m) (hr : rel S s ν) (hS : wfS S) (hC : wfC S s) {Q : Option Value → Mem → Prop} {X : String → Mem → Prop} (K : ∀ k : Nat, m = k → (k : Int) < s 5 0 → Q (some (.int (iI (obs S s k)))) (md (wr σ 0 7 0) ν μ)) (K2 : ¬ (0 ≤ m ∧ m < s 5 0) → Q (some (.int (iI 0))) (md (wr (wr σ 0 7 0) 0 7 1) ν μ)) : mt 289 4 0 0 mX11_obstacle [.ref 276, .int (iI m)] Q X (md σ ν μ) := by
  show go 289 4 0 0 mX11_obstacle Q X 0 [.ref 276, .int (iI m)] [] _
  obtain ⟨n1, n12, c1, c4⟩ := wf_n hS
  obtain ⟨q0, q16, r0, r12⟩ := wf_r hS hC
  have h7 := z7 σ
  by_cases g : 0 ≤ m ∧ m < s 5 0
  · obtain ⟨k, rfl⟩ := Int.eq_ofNat_of_zero_le g.1
    have g2 := g.2
    refine go_aload_n (y := mX11_obstacle) (pc := 0) dX11_obstacle_0 rfl rfl ?_
    refine go_iload_n (y := mX11_obstacle) (pc := 1) dX11_obstacle_1 rfl rfl ?_
    refine go_callV1 (y := mX11_obstacle) (pc := 2) (y' := mX11_finds) (kc2 := 0) (ks2 := 0) dX11_obstacle_2 ml_X11_354 ok_X11_finds (show shp 276 = _ from rfl) ⟨_, _, rfl⟩ (by decide) rfl (by decide) (Nat.le_of_ble_eq_true rfl) rfl (m_finds (by omega) hr hS hC (fun _ => ?_) (fun h9 => absurd g h9))
    refine go_if_eq (y := mX11_obstacle) (pc := 5) (tgt := 16) dX11_obstacle_5 (by decide) (by omega) (fun h5 => ?_) (fun h5 => ?_)
    · skip
      exact absurd h5 (by decide)
    · skip
      refine go_aload_n (y := mX11_obstacle) (pc := 8) dX11_obstacle_8 rfl rfl ?_
      refine go_iload_n (y := mX11_obstacle) (pc := 9) dX11_obstacle_9 rfl rfl ?_
      refine go_callV1 (y := mX11_obstacle) (pc := 10) (y' := mX11_prevents) (kc2 := 0) (ks2 := 0) dX11_obstacle_10 ml_X11_357 ok_X11_prevents (show shp 276 = _ from rfl) ⟨_, _, rfl⟩ (by decide) rfl (by decide) (Nat.le_of_ble_eq_true rfl) rfl (m_prevents (q := k) (by omega) hS hC hr (fun v10 e10 b10 => ?_))
      refine go_goto (y := mX11_obstacle) (pc := 13) (tgt := 17) dX11_obstacle_13 (by decide) ?_
      refine go_ireturn (y := mX11_obstacle) (pc := 17) dX11_obstacle_17 rfl ?_
      have ev := e10
      rw [ev]
      exact K k rfl (by omega)
  · skip
    refine go_aload_n (y := mX11_obstacle) (pc := 0) dX11_obstacle_0 rfl rfl ?_
    refine go_iload_n (y := mX11_obstacle) (pc := 1) dX11_obstacle_1 rfl rfl ?_
    refine go_callV1 (y := mX11_obstacle) (pc := 2) (y' := mX11_finds) (kc2 := 0) (ks2 := 0) dX11_obstacle_2 ml_X11_354 ok_X11_finds (show shp 276 = _ from rfl) ⟨_, _, rfl⟩ (by decide) rfl (by decide) (Nat.le_of_ble_eq_true rfl) rfl (m_finds (by omega) hr hS hC (fun h9 => absurd h9 g) (fun _ => ?_))
    refine go_if_eq (y := mX11_obstacle) (pc := 5) (tgt := 16) dX11_obstacle_5 (by decide) (by omega) (fun h5 => ?_) (fun h5 => ?_)
    · skip
      refine go_iconst (y := mX11_obstacle) (pc := 16) dX11_obstacle_16 ?_
      refine go_ireturn (y := mX11_obstacle) (pc := 17) dX11_obstacle_17 rfl ?_
      exact K2 g
    · skip
      exact absurd rfl h5
set_option maxRecDepth 8000 in
set_option maxHeartbeats 4000000 in
theorem m_wouldPass {m : Int} (hm : rng m) (hr : rel S s ν) (hS : wfS S) (hC : wfC S s) {Q : Option Value → Mem → Prop} {X : String → Mem → Prop} (K : ∀ k : Nat, m = k → (k : Int) < s 5 0 → Q (some (.int (iI (bI (0 < mgn S s k))))) (md (wr σ 0 7 0) ν μ)) (K2 : ¬ (0 ≤ m ∧ m < s 5 0) → Q (some (.int (iI 0))) (md (wr (wr σ 0 7 0) 0 7 1) ν μ)) : mt 289 4 0 0 mX11_wouldPass [.ref 276, .int (iI m)] Q X (md σ ν μ) := by
  show go 289 4 0 0 mX11_wouldPass Q X 0 [.ref 276, .int (iI m)] [] _
  obtain ⟨n1, n12, c1, c4⟩ := wf_n hS
  obtain ⟨q0, q16, r0, r12⟩ := wf_r hS hC
  have h7 := z7 σ
  by_cases g : 0 ≤ m ∧ m < s 5 0
  · obtain ⟨k, rfl⟩ := Int.eq_ofNat_of_zero_le g.1
    have g2 := g.2
    refine go_aload_n (y := mX11_wouldPass) (pc := 0) dX11_wouldPass_0 rfl rfl ?_
    refine go_iload_n (y := mX11_wouldPass) (pc := 1) dX11_wouldPass_1 rfl rfl ?_
    refine go_callV1 (y := mX11_wouldPass) (pc := 2) (y' := mX11_finds) (kc2 := 0) (ks2 := 0) dX11_wouldPass_2 ml_X11_354 ok_X11_finds (show shp 276 = _ from rfl) ⟨_, _, rfl⟩ (by decide) rfl (by decide) (Nat.le_of_ble_eq_true rfl) rfl (m_finds (by omega) hr hS hC (fun _ => ?_) (fun h9 => absurd g h9))
    refine go_if_eq (y := mX11_wouldPass) (pc := 5) (tgt := 20) dX11_wouldPass_5 (by decide) (by omega) (fun h5 => ?_) (fun h5 => ?_)
    · skip
      exact absurd h5 (by decide)
    · skip
      refine go_aload_n (y := mX11_wouldPass) (pc := 8) dX11_wouldPass_8 rfl rfl ?_
      refine go_iload_n (y := mX11_wouldPass) (pc := 9) dX11_wouldPass_9 rfl rfl ?_
      refine go_callV1 (y := mX11_wouldPass) (pc := 10) (y' := mX11_passes) (kc2 := 0) (ks2 := 0) dX11_wouldPass_10 ml_X11_360 ok_X11_passes (show shp 276 = _ from rfl) ⟨_, _, rfl⟩ (by decide) rfl (by decide) (Nat.le_of_ble_eq_true rfl) rfl (m_passes (q := k) (by omega) hS hC hr (fun v10 e10 b10 => ?_))
      refine go_if_eq (y := mX11_wouldPass) (pc := 13) (tgt := 20) dX11_wouldPass_13 (by decide) (by omega) (fun h13 => ?_) (fun h13 => ?_)
      · skip
        have h := K k rfl (by omega)
        rw [← e10, h13] at h
        refine go_iconst (y := mX11_wouldPass) (pc := 20) dX11_wouldPass_20 ?_
        refine go_zreturn (y := mX11_wouldPass) (pc := 21) dX11_wouldPass_21 rfl (by omega) ?_
        exact h
      · skip
        have h := K k rfl (by omega)
        rw [← e10, show v10 = 1 by omega] at h
        refine go_iconst (y := mX11_wouldPass) (pc := 16) dX11_wouldPass_16 ?_
        refine go_goto (y := mX11_wouldPass) (pc := 17) (tgt := 21) dX11_wouldPass_17 (by decide) ?_
        refine go_zreturn (y := mX11_wouldPass) (pc := 21) dX11_wouldPass_21 rfl (by omega) ?_
        exact h
  · skip
    refine go_aload_n (y := mX11_wouldPass) (pc := 0) dX11_wouldPass_0 rfl rfl ?_
    refine go_iload_n (y := mX11_wouldPass) (pc := 1) dX11_wouldPass_1 rfl rfl ?_
    refine go_callV1 (y := mX11_wouldPass) (pc := 2) (y' := mX11_finds) (kc2 := 0) (ks2 := 0) dX11_wouldPass_2 ml_X11_354 ok_X11_finds (show shp 276 = _ from rfl) ⟨_, _, rfl⟩ (by decide) rfl (by decide) (Nat.le_of_ble_eq_true rfl) rfl (m_finds (by omega) hr hS hC (fun h9 => absurd h9 g) (fun _ => ?_))
    refine go_if_eq (y := mX11_wouldPass) (pc := 5) (tgt := 20) dX11_wouldPass_5 (by decide) (by omega) (fun h5 => ?_) (fun h5 => ?_)
    · skip
      refine go_iconst (y := mX11_wouldPass) (pc := 20) dX11_wouldPass_20 ?_
      refine go_zreturn (y := mX11_wouldPass) (pc := 21) dX11_wouldPass_21 rfl (by omega) ?_
      exact K2 g
    · skip
      exact absurd rfl h5
set_option maxRecDepth 8000 in
set_option maxHeartbeats 4000000 in
theorem m_speaker {m : Int} (hm : rng m) (hr : rel S s ν) (hS : wfS S) (hC : wfC S s) {Q : Option Value → Mem → Prop} {X : String → Mem → Prop} (K : ∀ k : Nat, m = k → (k : Int) < S 0 0 → Q (some (.int (iI (s 16 k)))) (md (wr σ 0 7 0) ν μ)) (K2 : ¬ (0 ≤ m ∧ m < S 0 0) → Q (some (.int (iI 0))) (md (wr (wr σ 0 7 0) 0 7 1) ν μ)) : mt 289 4 0 0 mX11_speaker [.ref 276, .int (iI m)] Q X (md σ ν μ) := by
  show go 289 4 0 0 mX11_speaker Q X 0 [.ref 276, .int (iI m)] [] _
  obtain ⟨n1, n12, c1, c4⟩ := wf_n hS
  obtain ⟨q0, q16, r0, r12⟩ := wf_r hS hC
  have h7 := z7 σ
  by_cases g : 0 ≤ m ∧ m < S 0 0
  · obtain ⟨k, rfl⟩ := Int.eq_ofNat_of_zero_le g.1
    have g2 := g.2
    refine go_aload_n (y := mX11_speaker) (pc := 0) dX11_speaker_0 rfl rfl ?_
    refine go_iload_n (y := mX11_speaker) (pc := 1) dX11_speaker_1 rfl rfl ?_
    refine go_callV1 (y := mX11_speaker) (pc := 2) (y' := mX11_sees) (kc2 := 0) (ks2 := 0) dX11_speaker_2 ml_X11_372 ok_X11_sees (show shp 276 = _ from rfl) ⟨_, _, rfl⟩ (by decide) rfl (by decide) (Nat.le_of_ble_eq_true rfl) rfl (m_sees (by omega) hr hS hC (fun _ => ?_) (fun h9 => absurd g h9))
    refine go_if_eq (y := mX11_speaker) (pc := 5) (tgt := 17) dX11_speaker_5 (by decide) (by omega) (fun h5 => ?_) (fun h5 => ?_)
    · skip
      exact absurd h5 (by decide)
    · skip
      refine go_aload_n (y := mX11_speaker) (pc := 8) dX11_speaker_8 rfl rfl ?_
      refine go_iload_n (y := mX11_speaker) (pc := 9) dX11_speaker_9 rfl rfl ?_
      refine go_iconst (y := mX11_speaker) (pc := 10) dX11_speaker_10 ?_
      refine go_callV2 (y := mX11_speaker) (pc := 11) (y' := mX11_ofC) (kc2 := 0) (ks2 := 0) dX11_speaker_11 ml_X11_94 ok_X11_ofC (show shp 276 = _ from rfl) ⟨_, _, rfl⟩ (by decide) ⟨rfl, rfl⟩ (by decide) (Nat.le_of_ble_eq_true rfl) rfl (m_ofC (h := k) (w := 0) (by omega) (by decide) (fun v11 e11 r11 => ?_))
      refine go_goto (y := mX11_speaker) (pc := 14) (tgt := 18) dX11_speaker_14 (by decide) ?_
      refine go_ireturn (y := mX11_speaker) (pc := 18) dX11_speaker_18 rfl ?_
      rw [e11.trans (rhB hr g2)]
      exact K k rfl (by omega)
  · skip
    refine go_aload_n (y := mX11_speaker) (pc := 0) dX11_speaker_0 rfl rfl ?_
    refine go_iload_n (y := mX11_speaker) (pc := 1) dX11_speaker_1 rfl rfl ?_
    refine go_callV1 (y := mX11_speaker) (pc := 2) (y' := mX11_sees) (kc2 := 0) (ks2 := 0) dX11_speaker_2 ml_X11_372 ok_X11_sees (show shp 276 = _ from rfl) ⟨_, _, rfl⟩ (by decide) rfl (by decide) (Nat.le_of_ble_eq_true rfl) rfl (m_sees (by omega) hr hS hC (fun h9 => absurd h9 g) (fun _ => ?_))
    refine go_if_eq (y := mX11_speaker) (pc := 5) (tgt := 17) dX11_speaker_5 (by decide) (by omega) (fun h5 => ?_) (fun h5 => ?_)
    · skip
      refine go_iconst (y := mX11_speaker) (pc := 17) dX11_speaker_17 ?_
      refine go_ireturn (y := mX11_speaker) (pc := 18) dX11_speaker_18 rfl ?_
      exact K2 g
    · skip
      exact absurd rfl h5
set_option maxRecDepth 8000 in
set_option maxHeartbeats 4000000 in
theorem m_remainingTime {m : Int} (hm : rng m) (hr : rel S s ν) (hS : wfS S) (hC : wfC S s) {Q : Option Value → Mem → Prop} {X : String → Mem → Prop} (K : ∀ k : Nat, m = k → (k : Int) < S 0 0 → Q (some (.int (iI (s 19 k)))) (md (wr σ 0 7 0) ν μ)) (K2 : ¬ (0 ≤ m ∧ m < S 0 0) → Q (some (.int (iI 0))) (md (wr (wr σ 0 7 0) 0 7 1) ν μ)) : mt 289 4 0 0 mX11_remainingTime [.ref 276, .int (iI m)] Q X (md σ ν μ) := by
  show go 289 4 0 0 mX11_remainingTime Q X 0 [.ref 276, .int (iI m)] [] _
  obtain ⟨n1, n12, c1, c4⟩ := wf_n hS
  obtain ⟨q0, q16, r0, r12⟩ := wf_r hS hC
  have h7 := z7 σ
  by_cases g : 0 ≤ m ∧ m < S 0 0
  · obtain ⟨k, rfl⟩ := Int.eq_ofNat_of_zero_le g.1
    have g2 := g.2
    refine go_aload_n (y := mX11_remainingTime) (pc := 0) dX11_remainingTime_0 rfl rfl ?_
    refine go_iload_n (y := mX11_remainingTime) (pc := 1) dX11_remainingTime_1 rfl rfl ?_
    refine go_callV1 (y := mX11_remainingTime) (pc := 2) (y' := mX11_sees) (kc2 := 0) (ks2 := 0) dX11_remainingTime_2 ml_X11_372 ok_X11_sees (show shp 276 = _ from rfl) ⟨_, _, rfl⟩ (by decide) rfl (by decide) (Nat.le_of_ble_eq_true rfl) rfl (m_sees (by omega) hr hS hC (fun _ => ?_) (fun h9 => absurd g h9))
    refine go_if_eq (y := mX11_remainingTime) (pc := 5) (tgt := 27) dX11_remainingTime_5 (by decide) (by omega) (fun h5 => ?_) (fun h5 => ?_)
    · skip
      exact absurd h5 (by decide)
    · skip
      have hk4 := hC.2.2.2.2.2 k (by omega)
      refine go_aload_n (y := mX11_remainingTime) (pc := 8) dX11_remainingTime_8 rfl rfl ?_
      refine go_iload_n (y := mX11_remainingTime) (pc := 9) dX11_remainingTime_9 rfl rfl ?_
      refine go_iconst (y := mX11_remainingTime) (pc := 10) dX11_remainingTime_10 ?_
      refine go_callV2 (y := mX11_remainingTime) (pc := 11) (y' := mX11_ofC) (kc2 := 0) (ks2 := 0) dX11_remainingTime_11 ml_X11_94 ok_X11_ofC (show shp 276 = _ from rfl) ⟨_, _, rfl⟩ (by decide) ⟨rfl, rfl⟩ (by decide) (Nat.le_of_ble_eq_true rfl) rfl (m_ofC (h := k) (w := 0) (by omega) (by decide) (fun v11 e11 r11 => ?_))
      refine go_top (b := s 16 k) (e11.trans (rhB hr g2)) (fun t11 => ?_)
      refine go_iconst (y := mX11_remainingTime) (pc := 14) dX11_remainingTime_14 ?_
      refine go_icmp_eq (y := mX11_remainingTime) (pc := 15) (tgt := 27) dX11_remainingTime_15 (by decide) (by omega) (by omega) (fun h15 => ?_) (fun h15 => ?_)
      · skip
        have h := K k rfl (by omega)
        rw [show s 19 k = 0 by omega] at h
        refine go_iconst (y := mX11_remainingTime) (pc := 27) dX11_remainingTime_27 ?_
        refine go_ireturn (y := mX11_remainingTime) (pc := 28) dX11_remainingTime_28 rfl ?_
        exact h
      · skip
        refine go_aload_n (y := mX11_remainingTime) (pc := 18) dX11_remainingTime_18 rfl rfl ?_
        refine go_iload_n (y := mX11_remainingTime) (pc := 19) dX11_remainingTime_19 rfl rfl ?_
        refine go_iconst (y := mX11_remainingTime) (pc := 20) dX11_remainingTime_20 ?_
        refine go_callV2 (y := mX11_remainingTime) (pc := 21) (y' := mX11_ofC) (kc2 := 0) (ks2 := 0) dX11_remainingTime_21 ml_X11_94 ok_X11_ofC (show shp 276 = _ from rfl) ⟨_, _, rfl⟩ (by decide) ⟨rfl, rfl⟩ (by decide) (Nat.le_of_ble_eq_true rfl) rfl (m_ofC (h := k) (w := 3) (by omega) (by decide) (fun v21 e21 r21 => ?_))
        refine go_goto (y := mX11_remainingTime) (pc := 24) (tgt := 28) dX11_remainingTime_24 (by decide) ?_
        refine go_ireturn (y := mX11_remainingTime) (pc := 28) dX11_remainingTime_28 rfl ?_
        rw [e21.trans (rhR hr g2 (by omega))]
        exact K k rfl (by omega)
  · skip
    refine go_aload_n (y := mX11_remainingTime) (pc := 0) dX11_remainingTime_0 rfl rfl ?_
    refine go_iload_n (y := mX11_remainingTime) (pc := 1) dX11_remainingTime_1 rfl rfl ?_
    refine go_callV1 (y := mX11_remainingTime) (pc := 2) (y' := mX11_sees) (kc2 := 0) (ks2 := 0) dX11_remainingTime_2 ml_X11_372 ok_X11_sees (show shp 276 = _ from rfl) ⟨_, _, rfl⟩ (by decide) rfl (by decide) (Nat.le_of_ble_eq_true rfl) rfl (m_sees (by omega) hr hS hC (fun h9 => absurd h9 g) (fun _ => ?_))
    refine go_if_eq (y := mX11_remainingTime) (pc := 5) (tgt := 27) dX11_remainingTime_5 (by decide) (by omega) (fun h5 => ?_) (fun h5 => ?_)
    · skip
      refine go_iconst (y := mX11_remainingTime) (pc := 27) dX11_remainingTime_27 ?_
      refine go_ireturn (y := mX11_remainingTime) (pc := 28) dX11_remainingTime_28 rfl ?_
      exact K2 g
    · skip
      exact absurd rfl h5
set_option maxRecDepth 8000 in
set_option maxHeartbeats 4000000 in
theorem m_isRebutted {m : Int} (hm : rng m) (hr : rel S s ν) (hS : wfS S) (hC : wfC S s) {Q : Option Value → Mem → Prop} {X : String → Mem → Prop} (K : ∀ k : Nat, m = k → (k : Int) < S 0 0 → Q (some (.int (iI (bI (0 < s 20 k))))) (md (wr σ 0 7 0) ν μ)) (K2 : ¬ (0 ≤ m ∧ m < S 0 0) → Q (some (.int (iI 0))) (md (wr (wr σ 0 7 0) 0 7 1) ν μ)) : mt 289 4 0 0 mX11_isRebutted [.ref 276, .int (iI m)] Q X (md σ ν μ) := by
  show go 289 4 0 0 mX11_isRebutted Q X 0 [.ref 276, .int (iI m)] [] _
  obtain ⟨n1, n12, c1, c4⟩ := wf_n hS
  obtain ⟨q0, q16, r0, r12⟩ := wf_r hS hC
  have h7 := z7 σ
  by_cases g : 0 ≤ m ∧ m < S 0 0
  · obtain ⟨k, rfl⟩ := Int.eq_ofNat_of_zero_le g.1
    have g2 := g.2
    refine go_aload_n (y := mX11_isRebutted) (pc := 0) dX11_isRebutted_0 rfl rfl ?_
    refine go_iload_n (y := mX11_isRebutted) (pc := 1) dX11_isRebutted_1 rfl rfl ?_
    refine go_callV1 (y := mX11_isRebutted) (pc := 2) (y' := mX11_sees) (kc2 := 0) (ks2 := 0) dX11_isRebutted_2 ml_X11_372 ok_X11_sees (show shp 276 = _ from rfl) ⟨_, _, rfl⟩ (by decide) rfl (by decide) (Nat.le_of_ble_eq_true rfl) rfl (m_sees (by omega) hr hS hC (fun _ => ?_) (fun h9 => absurd g h9))
    refine go_if_eq (y := mX11_isRebutted) (pc := 5) (tgt := 32) dX11_isRebutted_5 (by decide) (by omega) (fun h5 => ?_) (fun h5 => ?_)
    · skip
      exact absurd h5 (by decide)
    · skip
      have hk4 := hC.2.2.2.2.2 k (by omega)
      refine go_aload_n (y := mX11_isRebutted) (pc := 8) dX11_isRebutted_8 rfl rfl ?_
      refine go_iload_n (y := mX11_isRebutted) (pc := 9) dX11_isRebutted_9 rfl rfl ?_
      refine go_iconst (y := mX11_isRebutted) (pc := 10) dX11_isRebutted_10 ?_
      refine go_callV2 (y := mX11_isRebutted) (pc := 11) (y' := mX11_ofC) (kc2 := 0) (ks2 := 0) dX11_isRebutted_11 ml_X11_94 ok_X11_ofC (show shp 276 = _ from rfl) ⟨_, _, rfl⟩ (by decide) ⟨rfl, rfl⟩ (by decide) (Nat.le_of_ble_eq_true rfl) rfl (m_ofC (h := k) (w := 0) (by omega) (by decide) (fun v11 e11 r11 => ?_))
      refine go_top (b := s 16 k) (e11.trans (rhB hr g2)) (fun t11 => ?_)
      refine go_iconst (y := mX11_isRebutted) (pc := 14) dX11_isRebutted_14 ?_
      refine go_icmp_eq (y := mX11_isRebutted) (pc := 15) (tgt := 32) dX11_isRebutted_15 (by decide) (by omega) (by omega) (fun h15 => ?_) (fun h15 => ?_)
      · skip
        have h := K k rfl (by omega)
        rw [bI_f (by omega)] at h
        refine go_iconst (y := mX11_isRebutted) (pc := 32) dX11_isRebutted_32 ?_
        refine go_zreturn (y := mX11_isRebutted) (pc := 33) dX11_isRebutted_33 rfl (by omega) ?_
        exact h
      · skip
        refine go_aload_n (y := mX11_isRebutted) (pc := 18) dX11_isRebutted_18 rfl rfl ?_
        refine go_iload_n (y := mX11_isRebutted) (pc := 19) dX11_isRebutted_19 rfl rfl ?_
        refine go_iconst (y := mX11_isRebutted) (pc := 20) dX11_isRebutted_20 ?_
        refine go_callV2 (y := mX11_isRebutted) (pc := 21) (y' := mX11_ofC) (kc2 := 0) (ks2 := 0) dX11_isRebutted_21 ml_X11_94 ok_X11_ofC (show shp 276 = _ from rfl) ⟨_, _, rfl⟩ (by decide) ⟨rfl, rfl⟩ (by decide) (Nat.le_of_ble_eq_true rfl) rfl (m_ofC (h := k) (w := 4) (by omega) (by decide) (fun v21 e21 r21 => ?_))
        refine go_top (b := s 20 k) (e21.trans (rhM hr g2 (by omega))) (fun t21 => ?_)
        refine go_iconst (y := mX11_isRebutted) (pc := 24) dX11_isRebutted_24 ?_
        refine go_icmp_ne (y := mX11_isRebutted) (pc := 25) (tgt := 32) dX11_isRebutted_25 (by decide) (by omega) (by omega) (fun h25 => ?_) (fun h25 => ?_)
        · skip
          have h := K k rfl (by omega)
          rw [bI_f (by omega)] at h
          refine go_iconst (y := mX11_isRebutted) (pc := 32) dX11_isRebutted_32 ?_
          refine go_zreturn (y := mX11_isRebutted) (pc := 33) dX11_isRebutted_33 rfl (by omega) ?_
          exact h
        · skip
          have h := K k rfl (by omega)
          rw [bI_t (by omega)] at h
          refine go_iconst (y := mX11_isRebutted) (pc := 28) dX11_isRebutted_28 ?_
          refine go_goto (y := mX11_isRebutted) (pc := 29) (tgt := 33) dX11_isRebutted_29 (by decide) ?_
          refine go_zreturn (y := mX11_isRebutted) (pc := 33) dX11_isRebutted_33 rfl (by omega) ?_
          exact h
  · skip
    refine go_aload_n (y := mX11_isRebutted) (pc := 0) dX11_isRebutted_0 rfl rfl ?_
    refine go_iload_n (y := mX11_isRebutted) (pc := 1) dX11_isRebutted_1 rfl rfl ?_
    refine go_callV1 (y := mX11_isRebutted) (pc := 2) (y' := mX11_sees) (kc2 := 0) (ks2 := 0) dX11_isRebutted_2 ml_X11_372 ok_X11_sees (show shp 276 = _ from rfl) ⟨_, _, rfl⟩ (by decide) rfl (by decide) (Nat.le_of_ble_eq_true rfl) rfl (m_sees (by omega) hr hS hC (fun h9 => absurd h9 g) (fun _ => ?_))
    refine go_if_eq (y := mX11_isRebutted) (pc := 5) (tgt := 32) dX11_isRebutted_5 (by decide) (by omega) (fun h5 => ?_) (fun h5 => ?_)
    · skip
      refine go_iconst (y := mX11_isRebutted) (pc := 32) dX11_isRebutted_32 ?_
      refine go_zreturn (y := mX11_isRebutted) (pc := 33) dX11_isRebutted_33 rfl (by omega) ?_
      exact K2 g
    · skip
      exact absurd rfl h5
set_option maxRecDepth 8000 in
set_option maxHeartbeats 4000000 in
theorem m_speechMotion {m : Int} (hm : rng m) (hr : rel S s ν) (hS : wfS S) (hC : wfC S s) {Q : Option Value → Mem → Prop} {X : String → Mem → Prop} (K : ∀ k : Nat, m = k → (k : Int) < S 0 0 → s 16 k ≠ -1 → Q (some (.int (iI (s 17 k)))) (md (wr σ 0 7 0) ν μ)) (K2 : ¬ (0 ≤ m ∧ m < S 0 0) → Q (some (.int (iI 0))) (md (wr (wr σ 0 7 0) 0 7 1) ν μ)) (K3 : ∀ k : Nat, m = k → (k : Int) < S 0 0 → s 16 k = -1 → Q (some (.int (iI 0))) (md (wr (wr σ 0 7 0) 0 7 2) ν μ)) : mt 289 4 0 0 mX11_speechMotion [.ref 276, .int (iI m)] Q X (md σ ν μ) := by
  show go 289 4 0 0 mX11_speechMotion Q X 0 [.ref 276, .int (iI m)] [] _
  obtain ⟨n1, n12, c1, c4⟩ := wf_n hS
  obtain ⟨q0, q16, r0, r12⟩ := wf_r hS hC
  have h7 := z7 σ
  by_cases g : 0 ≤ m ∧ m < S 0 0
  · obtain ⟨k, rfl⟩ := Int.eq_ofNat_of_zero_le g.1
    have g2 := g.2
    refine go_aload_n (y := mX11_speechMotion) (pc := 0) dX11_speechMotion_0 rfl rfl ?_
    refine go_iload_n (y := mX11_speechMotion) (pc := 1) dX11_speechMotion_1 rfl rfl ?_
    refine go_callV1 (y := mX11_speechMotion) (pc := 2) (y' := mX11_sees) (kc2 := 0) (ks2 := 0) dX11_speechMotion_2 ml_X11_372 ok_X11_sees (show shp 276 = _ from rfl) ⟨_, _, rfl⟩ (by decide) rfl (by decide) (Nat.le_of_ble_eq_true rfl) rfl (m_sees (by omega) hr hS hC (fun _ => ?_) (fun h9 => absurd g h9))
    refine go_if_eq (y := mX11_speechMotion) (pc := 5) (tgt := 40) dX11_speechMotion_5 (by decide) (by omega) (fun h5 => ?_) (fun h5 => ?_)
    · skip
      exact absurd h5 (by decide)
    · skip
      refine go_aload_n (y := mX11_speechMotion) (pc := 8) dX11_speechMotion_8 rfl rfl ?_
      refine go_aload_n (y := mX11_speechMotion) (pc := 9) dX11_speechMotion_9 rfl rfl ?_
      refine go_iload_n (y := mX11_speechMotion) (pc := 10) dX11_speechMotion_10 rfl rfl ?_
      refine go_iconst (y := mX11_speechMotion) (pc := 11) dX11_speechMotion_11 ?_
      refine go_callV2 (y := mX11_speechMotion) (pc := 12) (y' := mX11_ofC) (kc2 := 0) (ks2 := 0) dX11_speechMotion_12 ml_X11_94 ok_X11_ofC (show shp 276 = _ from rfl) ⟨_, _, rfl⟩ (by decide) ⟨rfl, rfl⟩ (by decide) (Nat.le_of_ble_eq_true rfl) rfl (m_ofC (h := k) (w := 0) (by omega) (by decide) (fun v12 e12 r12 => ?_))
      refine go_top (b := s 16 k) (e12.trans (rhB hr g2)) (fun t12 => ?_)
      refine go_iconst (y := mX11_speechMotion) (pc := 15) dX11_speechMotion_15 ?_
      refine go_icmp_eq (y := mX11_speechMotion) (pc := 16) (tgt := 23) dX11_speechMotion_16 (by decide) (by omega) (by omega) (fun h16 => ?_) (fun h16 => ?_)
      · skip
        refine go_iconst (y := mX11_speechMotion) (pc := 23) dX11_speechMotion_23 ?_
        refine go_iconst (y := mX11_speechMotion) (pc := 24) dX11_speechMotion_24 ?_
        refine go_callV2 (y := mX11_speechMotion) (pc := 25) (y' := mX11_right) (kc2 := 0) (ks2 := 0) dX11_speechMotion_25 ml_X11_167 ok_X11_right (show shp 276 = _ from rfl) ⟨_, _, rfl⟩ (by decide) ⟨rfl, rfl⟩ (by decide) (Nat.le_of_ble_eq_true rfl) rfl (m_right h7 (by omega) (by decide) (fun v25 e25 g25 => ?_) (fun g25 => ?_))
        · skip
          exact absurd g25 (by decide)
        · skip
          refine go_if_eq (y := mX11_speechMotion) (pc := 28) (tgt := 40) dX11_speechMotion_28 (by decide) (by omega) (fun h28 => ?_) (fun h28 => ?_)
          · skip
            refine go_iconst (y := mX11_speechMotion) (pc := 40) dX11_speechMotion_40 ?_
            refine go_ireturn (y := mX11_speechMotion) (pc := 41) dX11_speechMotion_41 rfl ?_
            exact K3 k rfl (by omega) h16
          · skip
            exact absurd rfl h28
      · skip
        refine go_iconst (y := mX11_speechMotion) (pc := 19) dX11_speechMotion_19 ?_
        refine go_goto (y := mX11_speechMotion) (pc := 20) (tgt := 24) dX11_speechMotion_20 (by decide) ?_
        refine go_iconst (y := mX11_speechMotion) (pc := 24) dX11_speechMotion_24 ?_
        refine go_callV2 (y := mX11_speechMotion) (pc := 25) (y' := mX11_right) (kc2 := 0) (ks2 := 0) dX11_speechMotion_25 ml_X11_167 ok_X11_right (show shp 276 = _ from rfl) ⟨_, _, rfl⟩ (by decide) ⟨rfl, rfl⟩ (by decide) (Nat.le_of_ble_eq_true rfl) rfl (m_right h7 (by omega) (by decide) (fun v25 e25 g25 => ?_) (fun g25 => ?_))
        · skip
          refine go_if_eq (y := mX11_speechMotion) (pc := 28) (tgt := 40) dX11_speechMotion_28 (by decide) (by omega) (fun h28 => ?_) (fun h28 => ?_)
          · skip
            exact absurd h28 (by omega)
          · skip
            refine go_aload_n (y := mX11_speechMotion) (pc := 31) dX11_speechMotion_31 rfl rfl ?_
            refine go_iload_n (y := mX11_speechMotion) (pc := 32) dX11_speechMotion_32 rfl rfl ?_
            refine go_iconst (y := mX11_speechMotion) (pc := 33) dX11_speechMotion_33 ?_
            refine go_callV2 (y := mX11_speechMotion) (pc := 34) (y' := mX11_ofC) (kc2 := 0) (ks2 := 0) dX11_speechMotion_34 ml_X11_94 ok_X11_ofC (show shp 276 = _ from rfl) ⟨_, _, rfl⟩ (by decide) ⟨rfl, rfl⟩ (by decide) (Nat.le_of_ble_eq_true rfl) rfl (m_ofC (h := k) (w := 1) (by omega) (by decide) (fun v34 e34 r34 => ?_))
            refine go_goto (y := mX11_speechMotion) (pc := 37) (tgt := 41) dX11_speechMotion_37 (by decide) ?_
            refine go_ireturn (y := mX11_speechMotion) (pc := 41) dX11_speechMotion_41 rfl ?_
            rw [e34.trans (rhA hr g2 h16)]
            exact K k rfl (by omega) h16
        · skip
          exact absurd g25 (by decide)
  · skip
    refine go_aload_n (y := mX11_speechMotion) (pc := 0) dX11_speechMotion_0 rfl rfl ?_
    refine go_iload_n (y := mX11_speechMotion) (pc := 1) dX11_speechMotion_1 rfl rfl ?_
    refine go_callV1 (y := mX11_speechMotion) (pc := 2) (y' := mX11_sees) (kc2 := 0) (ks2 := 0) dX11_speechMotion_2 ml_X11_372 ok_X11_sees (show shp 276 = _ from rfl) ⟨_, _, rfl⟩ (by decide) rfl (by decide) (Nat.le_of_ble_eq_true rfl) rfl (m_sees (by omega) hr hS hC (fun h9 => absurd h9 g) (fun _ => ?_))
    refine go_if_eq (y := mX11_speechMotion) (pc := 5) (tgt := 40) dX11_speechMotion_5 (by decide) (by omega) (fun h5 => ?_) (fun h5 => ?_)
    · skip
      refine go_iconst (y := mX11_speechMotion) (pc := 40) dX11_speechMotion_40 ?_
      refine go_ireturn (y := mX11_speechMotion) (pc := 41) dX11_speechMotion_41 rfl ?_
      exact K2 g
    · skip
      exact absurd rfl h5
set_option maxRecDepth 8000 in
set_option maxHeartbeats 4000000 in
theorem m_firstBy {m : Int} (hm : rng m) (hr : rel S s ν) (hS : wfS S) (hC : wfC S s) {Q : Option Value → Mem → Prop} {X : String → Mem → Prop} (K : 0 ≤ m ∧ m ≤ 3 → Q (some (.int (iI (if fsl S s m = -1 then -1 else s 12 (fsl S s m).toNat)))) (md (wr σ 0 7 0) ν μ)) (K2 : ¬ (0 ≤ m ∧ m ≤ 3) → Q (some (.int (iI 0))) (md (wr (wr σ 0 7 0) 0 7 1) ν μ)) : mt 289 4 0 0 mX11_firstBy [.ref 276, .int (iI m)] Q X (md σ ν μ) := by
  show go 289 4 0 0 mX11_firstBy Q X 0 [.ref 276, .int (iI m), .null] [] _
  obtain ⟨n1, n12, c1, c4⟩ := wf_n hS
  obtain ⟨q0, q16, r0, r12⟩ := wf_r hS hC
  have h7 := z7 σ
  refine go_aload_n (y := mX11_firstBy) (pc := 0) dX11_firstBy_0 rfl rfl ?_
  refine go_iconst (y := mX11_firstBy) (pc := 1) dX11_firstBy_1 ?_
  refine go_mput (y := mX11_firstBy) (pc := 2) dX11_firstBy_2 fp_X11_83 rfl rfl (by decide) (by omega) ?_
  refine go_aload_n (y := mX11_firstBy) (pc := 5) dX11_firstBy_5 rfl rfl ?_
  refine go_iload_n (y := mX11_firstBy) (pc := 6) dX11_firstBy_6 rfl rfl ?_
  refine go_callS1 (y := mX11_firstBy) (pc := 7) (y' := mX11_isRanking) (kc2 := 0) (ks2 := 0) dX11_firstBy_7 ml_X11_375 ok_X11_isRanking rfl (by decide) (Nat.le_of_ble_eq_true rfl) rfl (m_isRanking (by omega) (fun v7 e7 b7 => ?_))
  refine go_iconst (y := mX11_firstBy) (pc := 10) dX11_firstBy_10 ?_
  refine go_callV2 (y := mX11_firstBy) (pc := 11) (y' := mX11_right) (kc2 := 0) (ks2 := 0) dX11_firstBy_11 ml_X11_167 ok_X11_right (show shp 276 = _ from rfl) ⟨_, _, rfl⟩ (by decide) ⟨rfl, rfl⟩ (by decide) (Nat.le_of_ble_eq_true rfl) rfl (m_right h7 (by omega) (by decide) (fun v11 e11 g11 => ?_) (fun g11 => ?_))
  · skip
    refine go_if_ne (y := mX11_firstBy) (pc := 14) (tgt := 19) dX11_firstBy_14 (by decide) (by omega) (fun h14 => ?_) (fun h14 => ?_)
    · skip
      have h := K (bI_1 e7 (by omega))
      refine go_aload_n (y := mX11_firstBy) (pc := 19) dX11_firstBy_19 rfl rfl ?_
      refine go_iload_n (y := mX11_firstBy) (pc := 20) dX11_firstBy_20 rfl rfl ?_
      refine go_callV1 (y := mX11_firstBy) (pc := 21) (y' := mX11_firstOf) (kc2 := 0) (ks2 := 0) dX11_firstBy_21 ml_X11_135 ok_X11_firstOf (show shp 276 = _ from rfl) ⟨_, _, rfl⟩ (by decide) rfl (by decide) (Nat.le_of_ble_eq_true rfl) rfl (m_firstOf (by omega) hr hS hC (fun v21 e21 b21 => ?_))
      refine go_istore_n (y := mX11_firstBy) (pc := 24) dX11_firstBy_24 rfl (by decide) ?_
      refine go_iload_n (y := mX11_firstBy) (pc := 25) dX11_firstBy_25 rfl rfl ?_
      refine go_iconst (y := mX11_firstBy) (pc := 26) dX11_firstBy_26 ?_
      refine go_icmp_ne (y := mX11_firstBy) (pc := 27) (tgt := 34) dX11_firstBy_27 (by decide) (by omega) (by omega) (fun h27 => ?_) (fun h27 => ?_)
      · skip
        rw [if_neg (by omega)] at h
        obtain ⟨r, er⟩ : ∃ r : Nat, fsl S s m = r := ⟨(fsl S s m).toNat, by omega⟩
        rw [er, Int.toNat_natCast] at h
        refine go_loc (i := 2) (e21.trans er) rfl ?_
        refine go_aload_n (y := mX11_firstBy) (pc := 34) dX11_firstBy_34 rfl rfl ?_
        refine go_iload_n (y := mX11_firstBy) (pc := 35) dX11_firstBy_35 rfl rfl ?_
        refine go_iconst (y := mX11_firstBy) (pc := 36) dX11_firstBy_36 ?_
        refine go_callV2 (y := mX11_firstBy) (pc := 37) (y' := mX11_ofR) (kc2 := 0) (ks2 := 0) dX11_firstBy_37 ml_X11_97 ok_X11_ofR (show shp 276 = _ from rfl) ⟨_, _, rfl⟩ (by decide) ⟨rfl, rfl⟩ (by decide) (Nat.le_of_ble_eq_true rfl) rfl (m_ofR (r := r) (w := 0) (by omega) (by decide) (fun v37 e37 r37 => ?_))
        refine go_ireturn (y := mX11_firstBy) (pc := 40) dX11_firstBy_40 rfl ?_
        rw [e37.trans (rrB hr (by omega))]
        exact h
      · skip
        rw [if_pos (by omega)] at h
        refine go_iconst (y := mX11_firstBy) (pc := 30) dX11_firstBy_30 ?_
        refine go_goto (y := mX11_firstBy) (pc := 31) (tgt := 40) dX11_firstBy_31 (by decide) ?_
        refine go_ireturn (y := mX11_firstBy) (pc := 40) dX11_firstBy_40 rfl ?_
        exact h
    · skip
      exact absurd h14 (by omega)
  · skip
    refine go_if_ne (y := mX11_firstBy) (pc := 14) (tgt := 19) dX11_firstBy_14 (by decide) (by omega) (fun h14 => ?_) (fun h14 => ?_)
    · skip
      exact absurd rfl h14
    · skip
      refine go_iconst (y := mX11_firstBy) (pc := 17) dX11_firstBy_17 ?_
      refine go_ireturn (y := mX11_firstBy) (pc := 18) dX11_firstBy_18 rfl ?_
      exact K2 (bI_0 e7 g11)
end MRd
