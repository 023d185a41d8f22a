/-! THE MODEL: names taken, 2 -/
section MNames3
variable {S t σ μ : Mem} {ν : Nat → Int} {f : Int → Int} {L : Nat} {s : Nat × Int × Int}
set_option maxRecDepth 8000 in
set_option maxHeartbeats 4000000 in
theorem m_takesMember (hr : rom f L s σ) (hrl : rel S t ν) (hS : wfS S) {Q : Option Value → Mem → Prop} {X : String → Mem → Prop} (K : ∀ σ' v, v = fnd (fun m => n27 (S 1 m) = nmp f L s) (S 0 7).toNat → -1 ≤ v ∧ v < 12 → rom f L (gon f L (mus (nms f L s) (v ≠ -1) 3)) σ' → smo σ' σ → Q (some (.int (iI v))) (md σ' ν μ)) : mt 289 4 0 0 mX11_takesMember [.ref 276] Q X (md σ ν μ) := by
  show go 289 4 0 0 mX11_takesMember Q X 0 [.ref 276, .null] [] _
  have nb := nmp_b (f := f) (L := L) (s := s)
  have J27 : ∀ (σ2 : Mem) (v c : Int), v = fnd (fun m => n27 (S 1 m) = nmp f L s) (S 0 7).toNat → -1 ≤ v ∧ v < 12 → rom f L (nms f L s) σ2 → smo σ2 σ → c = bI ((nms f L s).2.1 ≠ 0 ∨ v ≠ -1) → go 289 4 0 0 mX11_takesMember Q X 27 [.ref 276, .int (iI v)] [.int (iI c), .ref 276] (md σ2 ν μ) := by
    intro σ2 v c hv hvb h1 h2 hc
    have em : mus (nms f L s) ((nms f L s).2.1 ≠ 0 ∨ v ≠ -1) 3 = mus (nms f L s) (v ≠ -1) 3 := by
      by_cases g : (nms f L s).2.1 = 0
      · exact mus_e ⟨fun w => w.resolve_left (fun w9 => w9 g), Or.inr⟩
      · rw [mus_c g, mus_c g]
    refine go_iconst (y := mX11_takesMember) (pc := 27) dX11_takesMember_27 ?_
    refine go_callV2 (y := mX11_takesMember) (pc := 28) (y' := mX11_must) (kc2 := 0) (ks2 := 0) dX11_takesMember_28 ml_X11_205 ok_X11_must (show shp 276 = _ from rfl) ⟨_, _, rfl⟩ (by decide) ⟨rfl, rfl⟩ (by decide) (Nat.le_of_ble_eq_true rfl) rfl (m_must hc (by decide) h1 (fun σ28 v28 e28 w28 x28 b28 => ?_))
    rw [em] at e28
    refine go_pop (y := mX11_takesMember) (pc := 31) dX11_takesMember_31 rfl ?_
    refine go_aload_n (y := mX11_takesMember) (pc := 32) dX11_takesMember_32 rfl rfl ?_
    refine go_callV0 (y := mX11_takesMember) (pc := 33) (y' := mX11_goesOn) (kc2 := 0) (ks2 := 0) dX11_takesMember_33 ml_X11_208 ok_X11_goesOn (show shp 276 = _ from rfl) ⟨_, _, rfl⟩ (by decide) trivial (by decide) (Nat.le_of_ble_eq_true rfl) rfl (m_goesOn e28 (fun σ33 e33 w33 => ?_))
    refine go_iload_n (y := mX11_takesMember) (pc := 36) dX11_takesMember_36 rfl rfl ?_
    refine go_ireturn (y := mX11_takesMember) (pc := 37) dX11_takesMember_37 rfl ?_
    exact K _ v hv hvb e33 (smo_t w33 (smo_t w28 h2))
  refine go_aload_n (y := mX11_takesMember) (pc := 0) dX11_takesMember_0 rfl rfl ?_
  refine go_aload_n (y := mX11_takesMember) (pc := 1) dX11_takesMember_1 rfl rfl ?_
  refine go_callV0 (y := mX11_takesMember) (pc := 2) (y' := mX11_looksAtName) (kc2 := 0) (ks2 := 0) dX11_takesMember_2 ml_X11_214 ok_X11_looksAtName (show shp 276 = _ from rfl) ⟨_, _, rfl⟩ (by decide) trivial (by decide) (Nat.le_of_ble_eq_true rfl) rfl (m_looksAtName hr (fun σ2 v2 e2 w2 x2 => ?_))
  refine go_callV1 (y := mX11_takesMember) (pc := 5) (y' := mX11_named) (kc2 := 0) (ks2 := 0) dX11_takesMember_5 ml_X11_217 ok_X11_named (show shp 276 = _ from rfl) ⟨_, _, rfl⟩ (by decide) rfl (by decide) (Nat.le_of_ble_eq_true rfl) rfl (m_named (x := v2) (by omega) hrl hS (fun v5 e5 b5 => ?_))
  refine go_istore_n (y := mX11_takesMember) (pc := 8) dX11_takesMember_8 rfl (by decide) ?_
  refine go_aload_n (y := mX11_takesMember) (pc := 9) dX11_takesMember_9 rfl rfl ?_
  refine go_aload_n (y := mX11_takesMember) (pc := 10) dX11_takesMember_10 rfl rfl ?_
  refine go_mget (y := mX11_takesMember) (pc := 11) dX11_takesMember_11 fl_X11_189 rfl rfl (by decide) (fun r11 => ?_)
  refine go_top (b := (nms f L s).2.1) (e2.2.2.2.2.1) (fun t11 => ?_)
  refine go_if_ne (y := mX11_takesMember) (pc := 14) (tgt := 22) dX11_takesMember_14 (by decide) (by omega) (fun h14 => ?_) (fun h14 => ?_)
  · skip
    refine go_iconst (y := mX11_takesMember) (pc := 22) dX11_takesMember_22 ?_
    refine go_goto (y := mX11_takesMember) (pc := 23) (tgt := 27) dX11_takesMember_23 (by decide) ?_
    exact J27 σ2 v5 1 (by rw [e5, x2]) b5 e2 w2 (bI_t (Or.inl h14)).symm
  · skip
    refine go_iload_n (y := mX11_takesMember) (pc := 17) dX11_takesMember_17 rfl rfl ?_
    refine go_iconst (y := mX11_takesMember) (pc := 18) dX11_takesMember_18 ?_
    refine go_icmp_eq (y := mX11_takesMember) (pc := 19) (tgt := 26) dX11_takesMember_19 (by decide) (by omega) (by omega) (fun h19 => ?_) (fun h19 => ?_)
    · skip
      refine go_iconst (y := mX11_takesMember) (pc := 26) dX11_takesMember_26 ?_
      exact J27 σ2 v5 0 (by rw [e5, x2]) b5 e2 w2 (bI_f (fun w => w.elim (fun w9 => w9 h14) (fun w9 => w9 h19))).symm
    · skip
      refine go_iconst (y := mX11_takesMember) (pc := 22) dX11_takesMember_22 ?_
      refine go_goto (y := mX11_takesMember) (pc := 23) (tgt := 27) dX11_takesMember_23 (by decide) ?_
      exact J27 σ2 v5 1 (by rw [e5, x2]) b5 e2 w2 (bI_t (Or.inr h19)).symm
end MNames3
