/-! THE OUTPUT: emptied, its length, its letters; names -/
set_option maxRecDepth 8000 in
set_option maxHeartbeats 4000000 in
theorem sb_len5 {μ : Mem} {Q : Option Value → Mem → Prop} {X : String → Mem → Prop} (K : Q (some (.int (iI (μ 5000 0)))) μ) : mt 276 0 0 0 mJ5_length_8abf5 [.ref 5000] Q X μ := by
  show go 276 0 0 0 mJ5_length_8abf5 Q X 0 [.ref 5000] [] _
  refine go_aload_n (y := mJ5_length_8abf5) (pc := 0) dJ5_length_8abf5_0 rfl rfl ?_
  refine go_bcnt (y := mJ5_length_8abf5) (pc := 1) dJ5_length_8abf5_1 fk_J5_79 (by decide) ?_
  refine go_ireturn (y := mJ5_length_8abf5) (pc := 4) dJ5_length_8abf5_4 rfl ?_
  exact K
set_option maxRecDepth 8000 in
set_option maxHeartbeats 4000000 in
theorem sb_len {μ : Mem} {Q : Option Value → Mem → Prop} {X : String → Mem → Prop} (K : Q (some (.int (iI (μ 5000 0)))) μ) : mt 276 1 0 0 mJ4_length_8abf5 [.ref 5000] Q X μ := by
  show go 276 1 0 0 mJ4_length_8abf5 Q X 0 [.ref 5000] [] _
  refine go_aload_n (y := mJ4_length_8abf5) (pc := 0) dJ4_length_8abf5_0 rfl rfl ?_
  refine go_callSu (y := mJ4_length_8abf5) (pc := 1) (y' := mJ5_length_8abf5) (as := []) (kc2 := 0) (ks2 := 0) dJ4_length_8abf5_1 rfl ml_J4_343 ok_J5_length_8abf5 sm_J5_length_8abf5 su_J4 (by decide) (by decide) rfl (Nat.le_of_ble_eq_true rfl) (by intro v hv; simp only [List.mem_cons, List.not_mem_nil, or_false] at hv) (Nat.le_of_ble_eq_true rfl) (Nat.le_refl _) (by decide) (by decide) (by decide) rfl (sb_len5 ?_)
  refine go_ireturn (y := mJ4_length_8abf5) (pc := 4) dJ4_length_8abf5_4 rfl ?_
  exact K
theorem nar_c {v : Int} (h : 0 ≤ v ∧ v < 65536) : narrow .char (.int (iI v)) = .int (iI v) := by
  rw [show iI v = nI v.toNat from by
    rw [show nI v.toNat = iI (v.toNat : Int) from iI_of (by omega)]
    congr 1
    omega]
  exact (pk_charN (by omega)).1
