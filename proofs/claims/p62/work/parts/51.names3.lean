/-! NAMES TAKEN -/
def nms (f : Int → Int) (L : Nat) (s : Nat × Int × Int) : Nat × Int × Int := mus (mus s (tkK f s.1 = 1) 1) (¬ 6 < tkE f L s.1 - s.1) 2
section Names3
variable {ρ : Nat → Int} {μ : Mem} {L : Nat} {s : Nat × Int × Int}
set_option maxRecDepth 8000 in
set_option maxHeartbeats 4000000 in
theorem t_takeNewName (hL : μ 1 1 = L) (hT : wfT μ) (hr : rok (tx μ) L s ρ) (hn : 0 ≤ μ 15 7) (hn12 : μ 15 7 ≤ 12) {Q : Option Value → Mem → Prop} {X : String → Mem → Prop} (K : ∀ ρ' v, v = nbt (tx μ) s.1 (tkE (tx μ) L s.1) → 0 ≤ v ∧ v < 1073741824 → rok (tx μ) L (gon (tx μ) L (mus (nms (tx μ) L s) (fnd (fun m => μ 16 m = v) (μ 15 7).toNat = -1) 3)) ρ' → Q (some (.int (iI v))) (pr ρ' μ)) : mt 276 3 0 0 mX7_takeNewName [.ref 15, .ref 3] Q X (pr ρ μ) := by
  show go 276 3 0 0 mX7_takeNewName Q X 0 [.ref 15, .ref 3, .null, .null] [] _
  have J25 : ∀ v err : Int, v = nbt (tx μ) s.1 (tkE (tx μ) L s.1) → 0 ≤ v ∧ v < 1073741824 → err = (if ¬ (tkK (tx μ) s.1 = 1) then (1 : Int) else if ¬ ¬ 6 < tkE (tx μ) L s.1 - s.1 then 2 else if ¬ (fnd (fun m => μ 16 m = v) (μ 15 7).toNat = -1) then 3 else 0) → 0 ≤ err ∧ err ≤ 3 → go 276 3 0 0 mX7_takeNewName Q X 25 [.ref 15, .ref 3, .int (iI v), .int (iI err)] [] (pr ρ μ) := by
    intro v err hv hvb he heb
    refine go_aload_n (y := mX7_takeNewName) (pc := 25) dX7_takeNewName_25 rfl rfl ?_
    refine go_iload_n (y := mX7_takeNewName) (pc := 26) dX7_takeNewName_26 rfl rfl ?_
    refine go_callV1 (y := mX7_takeNewName) (pc := 27) (y' := mX9_take) (kc2 := 0) (ks2 := 0) dX7_takeNewName_27 ml_X7_88 ok_X9_take (show shp 3 = _ from rfl) ⟨_, _, rfl⟩ (by decide) rfl (by decide) (Nat.le_of_ble_eq_true rfl) rfl (t_take (by omega) hL hT hr (fun ρ27 e27 => ?_))
    refine go_iload_n (y := mX7_takeNewName) (pc := 30) dX7_takeNewName_30 rfl rfl ?_
    refine go_ireturn (y := mX7_takeNewName) (pc := 31) dX7_takeNewName_31 rfl ?_
    refine K _ v hv hvb ?_
    unfold nms
    rw [mus3, ← he]
    exact e27
  refine go_aload_n (y := mX7_takeNewName) (pc := 0) dX7_takeNewName_0 rfl rfl ?_
  refine go_callV0 (y := mX7_takeNewName) (pc := 1) (y' := mX9_name) (kc2 := 0) (ks2 := 0) dX7_takeNewName_1 ml_X7_96 ok_X9_name (show shp 3 = _ from rfl) ⟨_, _, rfl⟩ (by decide) trivial (by decide) (Nat.le_of_ble_eq_true rfl) rfl (t_name hL hT hr (fun v1 e1 b1 => ?_))
  refine go_istore_n (y := mX7_takeNewName) (pc := 4) dX7_takeNewName_4 rfl (by decide) ?_
  refine go_aload_n (y := mX7_takeNewName) (pc := 5) dX7_takeNewName_5 rfl rfl ?_
  refine go_callV0 (y := mX7_takeNewName) (pc := 6) (y' := mX9_errorAsName) (kc2 := 0) (ks2 := 0) dX7_takeNewName_6 ml_X7_99 ok_X9_errorAsName (show shp 3 = _ from rfl) ⟨_, _, rfl⟩ (by decide) trivial (by decide) (Nat.le_of_ble_eq_true rfl) rfl (t_errorAsName hL hT hr (fun v6 e6 b6 => ?_))
  refine go_istore_n (y := mX7_takeNewName) (pc := 9) dX7_takeNewName_9 rfl (by decide) ?_
  refine go_iload_n (y := mX7_takeNewName) (pc := 10) dX7_takeNewName_10 rfl rfl ?_
  refine go_if_ne (y := mX7_takeNewName) (pc := 11) (tgt := 25) dX7_takeNewName_11 (by decide) (by omega) (fun h11 => ?_) (fun h11 => ?_)
  · skip
    exact J25 v1 v6 e1 b1 (by rw [e6] at h11 ⊢; revert h11; (repeat' split) <;> intro h11 <;> first | rfl | omega) (by omega)
  · skip
    refine go_aload_n (y := mX7_takeNewName) (pc := 14) dX7_takeNewName_14 rfl rfl ?_
    refine go_iload_n (y := mX7_takeNewName) (pc := 15) dX7_takeNewName_15 rfl rfl ?_
    refine go_callV1 (y := mX7_takeNewName) (pc := 16) (y' := mX7_memberNamed) (kc2 := 0) (ks2 := 0) dX7_takeNewName_16 ml_X7_102 ok_X7_memberNamed (show shp 15 = _ from rfl) ⟨_, _, rfl⟩ (by decide) rfl (by decide) (Nat.le_of_ble_eq_true rfl) rfl (s_memberNamed15 (μ := pr ρ μ) (x := v1) (by omega) (show 0 ≤ (pr ρ μ) 15 7 from hn) (show (pr ρ μ) 15 7 ≤ 12 from hn12) (fun v16 e16 b16 => ?_))
    refine go_iconst (y := mX7_takeNewName) (pc := 19) dX7_takeNewName_19 ?_
    refine go_icmp_eq (y := mX7_takeNewName) (pc := 20) (tgt := 25) dX7_takeNewName_20 (by decide) (by omega) (by omega) (fun h20 => ?_) (fun h20 => ?_)
    · skip
      have e9 : fnd (fun m => μ 16 m = v1) (μ 15 7).toNat = -1 := e16.symm.trans h20
      exact J25 v1 v6 e1 b1 (by rw [e6] at h11 ⊢; revert h11; (repeat' split) <;> intro h11 <;> first | rfl | omega) (by omega)
    · skip
      have e9 : fnd (fun m => μ 16 m = v1) (μ 15 7).toNat ≠ -1 := fun w => h20 (e16.trans w)
      refine go_iconst (y := mX7_takeNewName) (pc := 23) dX7_takeNewName_23 ?_
      refine go_istore_n (y := mX7_takeNewName) (pc := 24) dX7_takeNewName_24 rfl (by decide) ?_
      exact J25 v1 3 e1 b1 (by rw [e6] at h11; revert h11; (repeat' split) <;> intro h11 <;> first | rfl | omega) (by decide)
end Names3
