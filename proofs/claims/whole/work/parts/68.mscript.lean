/-! SCRIPTS READ BY THE MODEL: words, operands -/
theorem rom_w {f : Int → Int} {L : Nat} {s : Sta} {σ : Mem} {r i : Nat} {v : Int} (h : rom f L s σ) (hr : 8 ≤ r ∨ (r = 0 ∧ i = 22)) : rom f L s (wr σ r i v) := by
  obtain ⟨⟨b1, b2, b3, b4⟩, h1, h2, h3, h4, h5, h6, h7⟩ := h
  refine ⟨⟨by rw [wr_n (by omega)]; exact b1, b2, fun k hk => by rw [wr_n (by omega)]; exact b3 k hk, b4⟩, by rw [wr_n (by omega)]; exact h1, by rw [wr_n (by omega)]; exact h2, by rw [wr_n (by omega)]; exact h3, by rw [wr_n (by omega)]; exact h4, by rw [wr_n (by omega)]; exact h5, fun w => by rw [wr_n (by omega)]; exact h6 w, h7⟩
/-- all but the reader's numbers and the operands of command i is the same -/
def smI (i : Nat) (σ' σ : Mem) : Prop := ∀ r j : Nat, (r ≠ 0 ∨ j < 12 ∨ 17 < j) → (r < 9 ∨ 11 < r ∨ j ≠ i) → σ' r j = σ r j
theorem smI_t {i : Nat} {a b c : Mem} (h : smI i a b) (g : smI i b c) : smI i a c := fun r j w w2 => (h r j w w2).trans (g r j w w2)
theorem smI_s {i : Nat} {a b : Mem} (h : smo a b) : smI i a b := fun r j w _ => h r j w
theorem smI_w {i r : Nat} {σ : Mem} {v : Int} (h : 9 ≤ r ∧ r ≤ 11) : smI i (wr σ r i v) σ := fun a j w w2 => wr_n (by omega)
def opV (i : Nat) (k : Int) (σ τ : Mem) : Prop := (k = 0 ∨ k = 1 ∨ k = 2 ∨ k = 6 → σ 9 i = τ 6 i) ∧ (k ≠ 6 → σ 10 i = τ 8 i) ∧ (k = 1 → σ 11 i = sdm (τ 7 i) ∧ (τ 7 i = 1 ∨ τ 7 i = -1))
theorem nmM {f : Int → Int} {L : Nat} {s : Sta} {S τ : Mem} (hN : ∀ m : Nat, (m : Int) < S 0 7 → isn 6 (S 1 m)) (hT : τ 10 7 = S 0 7 ∧ ∀ m : Nat, τ 11 m = S 1 m) (h : (nms f L s).2.1 = 0) : fnd (fun m => n27 (S 1 m) = nmp f L s) (S 0 7).toNat = nmF f L s τ := by
  unfold nmF
  rw [nmp_nbt h, fnd_n27 (g := fun m => S 1 m) (x := nbt f s.1 (tkE f L s.1)) (fun k hk => hN k (by omega)) isn_nbt, hT.1]
  exact fnd_cong (fun k hk => by rw [hT.2 k])
theorem num_v {f : Int → Int} {L : Nat} {s : Sta} {a m v : Int} (ha : 0 ≤ a ∧ m ≤ 1000) (h : (num3 f L s a m).2.1 = 0) (hv : (num3 f L s a m).2.1 = 0 → v = nmv f L s.1) : wp v = tkn3 f L s a m := by
  have h1 := tkn3_v h hv
  rw [wp_of (by omega)]
  exact h1.1
section MScript
variable {S t σ μ τ : Mem} {ν : Nat → Int} {f : Int → Int} {L : Nat} {s : Sta}
set_option maxRecDepth 8000 in
set_option maxHeartbeats 4000000 in
theorem m_commandHere (hr : rom f L s σ) (hs : s.2.1 = 0) {Q : Option Value → Mem → Prop} {X : String → Mem → Prop} (K : ∀ v, v = kwV f L s → -1 ≤ v ∧ v ≤ 8 → Q (some (.int (iI v))) (md σ ν μ)) : mt 289 5 0 0 mX11_commandHere [.ref 276] Q X (md σ ν μ) := by
  show go 289 5 0 0 mX11_commandHere Q X 0 [.ref 276] [] _
  unfold kwV at K
  refine go_aload_n (y := mX11_commandHere) (pc := 0) dX11_commandHere_0 rfl rfl ?_
  refine go_ldc (y := mX11_commandHere) (pc := 1) (i := 34) dX11_commandHere_1 rfl ?_
  refine go_callV1 (y := mX11_commandHere) (pc := 3) (y' := mX11_isWord) (kc2 := 0) (ks2 := 0) dX11_commandHere_3 ml_X11_198 ok_X11_isWord (show shp 276 = _ from rfl) ⟨_, _, rfl⟩ (by decide) rfl (by decide) (Nat.le_of_ble_eq_true rfl) rfl (m_isWord (k := 34) rfl hr (fun v3 e3 b3 => ?_))
  refine go_if_eq (y := mX11_commandHere) (pc := 6) (tgt := 11) dX11_commandHere_6 (by decide) (by omega) (fun h6 => ?_) (fun h6 => ?_)
  · skip
    skip
    refine go_aload_n (y := mX11_commandHere) (pc := 11) dX11_commandHere_11 rfl rfl ?_
    refine go_ldc (y := mX11_commandHere) (pc := 12) (i := 35) dX11_commandHere_12 rfl ?_
    refine go_callV1 (y := mX11_commandHere) (pc := 14) (y' := mX11_isWord) (kc2 := 0) (ks2 := 0) dX11_commandHere_14 ml_X11_198 ok_X11_isWord (show shp 276 = _ from rfl) ⟨_, _, rfl⟩ (by decide) rfl (by decide) (Nat.le_of_ble_eq_true rfl) rfl (m_isWord (k := 35) rfl hr (fun v14 e14 b14 => ?_))
    refine go_if_eq (y := mX11_commandHere) (pc := 17) (tgt := 22) dX11_commandHere_17 (by decide) (by omega) (fun h17 => ?_) (fun h17 => ?_)
    · skip
      skip
      refine go_aload_n (y := mX11_commandHere) (pc := 22) dX11_commandHere_22 rfl rfl ?_
      refine go_ldc (y := mX11_commandHere) (pc := 23) (i := 36) dX11_commandHere_23 rfl ?_
      refine go_callV1 (y := mX11_commandHere) (pc := 25) (y' := mX11_isWord) (kc2 := 0) (ks2 := 0) dX11_commandHere_25 ml_X11_198 ok_X11_isWord (show shp 276 = _ from rfl) ⟨_, _, rfl⟩ (by decide) rfl (by decide) (Nat.le_of_ble_eq_true rfl) rfl (m_isWord (k := 36) rfl hr (fun v25 e25 b25 => ?_))
      refine go_if_eq (y := mX11_commandHere) (pc := 28) (tgt := 33) dX11_commandHere_28 (by decide) (by omega) (fun h28 => ?_) (fun h28 => ?_)
      · skip
        skip
        refine go_aload_n (y := mX11_commandHere) (pc := 33) dX11_commandHere_33 rfl rfl ?_
        refine go_ldc (y := mX11_commandHere) (pc := 34) (i := 37) dX11_commandHere_34 rfl ?_
        refine go_callV1 (y := mX11_commandHere) (pc := 36) (y' := mX11_isWord) (kc2 := 0) (ks2 := 0) dX11_commandHere_36 ml_X11_198 ok_X11_isWord (show shp 276 = _ from rfl) ⟨_, _, rfl⟩ (by decide) rfl (by decide) (Nat.le_of_ble_eq_true rfl) rfl (m_isWord (k := 37) rfl hr (fun v36 e36 b36 => ?_))
        refine go_if_eq (y := mX11_commandHere) (pc := 39) (tgt := 44) dX11_commandHere_39 (by decide) (by omega) (fun h39 => ?_) (fun h39 => ?_)
        · skip
          skip
          refine go_aload_n (y := mX11_commandHere) (pc := 44) dX11_commandHere_44 rfl rfl ?_
          refine go_ldc (y := mX11_commandHere) (pc := 45) (i := 38) dX11_commandHere_45 rfl ?_
          refine go_callV1 (y := mX11_commandHere) (pc := 47) (y' := mX11_isWord) (kc2 := 0) (ks2 := 0) dX11_commandHere_47 ml_X11_198 ok_X11_isWord (show shp 276 = _ from rfl) ⟨_, _, rfl⟩ (by decide) rfl (by decide) (Nat.le_of_ble_eq_true rfl) rfl (m_isWord (k := 38) rfl hr (fun v47 e47 b47 => ?_))
          refine go_if_eq (y := mX11_commandHere) (pc := 50) (tgt := 55) dX11_commandHere_50 (by decide) (by omega) (fun h50 => ?_) (fun h50 => ?_)
          · skip
            skip
            refine go_aload_n (y := mX11_commandHere) (pc := 55) dX11_commandHere_55 rfl rfl ?_
            refine go_ldc (y := mX11_commandHere) (pc := 56) (i := 39) dX11_commandHere_56 rfl ?_
            refine go_callV1 (y := mX11_commandHere) (pc := 58) (y' := mX11_isWord) (kc2 := 0) (ks2 := 0) dX11_commandHere_58 ml_X11_198 ok_X11_isWord (show shp 276 = _ from rfl) ⟨_, _, rfl⟩ (by decide) rfl (by decide) (Nat.le_of_ble_eq_true rfl) rfl (m_isWord (k := 39) rfl hr (fun v58 e58 b58 => ?_))
            refine go_if_eq (y := mX11_commandHere) (pc := 61) (tgt := 66) dX11_commandHere_61 (by decide) (by omega) (fun h61 => ?_) (fun h61 => ?_)
            · skip
              skip
              refine go_aload_n (y := mX11_commandHere) (pc := 66) dX11_commandHere_66 rfl rfl ?_
              refine go_ldc (y := mX11_commandHere) (pc := 67) (i := 40) dX11_commandHere_67 rfl ?_
              refine go_callV1 (y := mX11_commandHere) (pc := 69) (y' := mX11_isWord) (kc2 := 0) (ks2 := 0) dX11_commandHere_69 ml_X11_198 ok_X11_isWord (show shp 276 = _ from rfl) ⟨_, _, rfl⟩ (by decide) rfl (by decide) (Nat.le_of_ble_eq_true rfl) rfl (m_isWord (k := 40) rfl hr (fun v69 e69 b69 => ?_))
              refine go_if_eq (y := mX11_commandHere) (pc := 72) (tgt := 78) dX11_commandHere_72 (by decide) (by omega) (fun h72 => ?_) (fun h72 => ?_)
              · skip
                skip
                refine go_aload_n (y := mX11_commandHere) (pc := 78) dX11_commandHere_78 rfl rfl ?_
                refine go_ldc (y := mX11_commandHere) (pc := 79) (i := 41) dX11_commandHere_79 rfl ?_
                refine go_callV1 (y := mX11_commandHere) (pc := 81) (y' := mX11_isWord) (kc2 := 0) (ks2 := 0) dX11_commandHere_81 ml_X11_198 ok_X11_isWord (show shp 276 = _ from rfl) ⟨_, _, rfl⟩ (by decide) rfl (by decide) (Nat.le_of_ble_eq_true rfl) rfl (m_isWord (k := 41) rfl hr (fun v81 e81 b81 => ?_))
                refine go_if_eq (y := mX11_commandHere) (pc := 84) (tgt := 90) dX11_commandHere_84 (by decide) (by omega) (fun h84 => ?_) (fun h84 => ?_)
                · skip
                  skip
                  refine go_aload_n (y := mX11_commandHere) (pc := 90) dX11_commandHere_90 rfl rfl ?_
                  refine go_ldcW (y := mX11_commandHere) (pc := 91) (i := 42) dX11_commandHere_91 rfl ?_
                  refine go_callV1 (y := mX11_commandHere) (pc := 94) (y' := mX11_isWord) (kc2 := 0) (ks2 := 0) dX11_commandHere_94 ml_X11_198 ok_X11_isWord (show shp 276 = _ from rfl) ⟨_, _, rfl⟩ (by decide) rfl (by decide) (Nat.le_of_ble_eq_true rfl) rfl (m_isWord (k := 42) rfl hr (fun v94 e94 b94 => ?_))
                  refine go_if_eq (y := mX11_commandHere) (pc := 97) (tgt := 105) dX11_commandHere_97 (by decide) (by omega) (fun h97 => ?_) (fun h97 => ?_)
                  · skip
                    refine go_iconst (y := mX11_commandHere) (pc := 105) dX11_commandHere_105 ?_
                    refine go_ireturn (y := mX11_commandHere) (pc := 106) dX11_commandHere_106 rfl ?_
                    exact K (-1) (by rw [if_neg (show ¬ atw f L s.1 "propose" from fun w => bI_0 e3 h6 ⟨hs, w⟩), if_neg (show ¬ atw f L s.1 "ask" from fun w => bI_0 e14 h17 ⟨hs, w⟩), if_neg (show ¬ atw f L s.1 "rebut" from fun w => bI_0 e25 h28 ⟨hs, w⟩), if_neg (show ¬ atw f L s.1 "wait" from fun w => bI_0 e36 h39 ⟨hs, w⟩), if_neg (show ¬ atw f L s.1 "vote" from fun w => bI_0 e47 h50 ⟨hs, w⟩), if_neg (show ¬ atw f L s.1 "withdraw" from fun w => bI_0 e58 h61 ⟨hs, w⟩), if_neg (show ¬ atw f L s.1 "sharpen" from fun w => bI_0 e69 h72 ⟨hs, w⟩), if_neg (show ¬ atw f L s.1 "rank" from fun w => bI_0 e81 h84 ⟨hs, w⟩), if_neg (show ¬ atw f L s.1 "repeat" from fun w => bI_0 e94 h97 ⟨hs, w⟩)]) (by decide)
                  · skip
                    refine go_bipush (y := mX11_commandHere) (pc := 100) dX11_commandHere_100 (by decide) ?_
                    refine go_goto (y := mX11_commandHere) (pc := 102) (tgt := 106) dX11_commandHere_102 (by decide) ?_
                    refine go_ireturn (y := mX11_commandHere) (pc := 106) dX11_commandHere_106 rfl ?_
                    exact K 8 (by rw [if_neg (show ¬ atw f L s.1 "propose" from fun w => bI_0 e3 h6 ⟨hs, w⟩), if_neg (show ¬ atw f L s.1 "ask" from fun w => bI_0 e14 h17 ⟨hs, w⟩), if_neg (show ¬ atw f L s.1 "rebut" from fun w => bI_0 e25 h28 ⟨hs, w⟩), if_neg (show ¬ atw f L s.1 "wait" from fun w => bI_0 e36 h39 ⟨hs, w⟩), if_neg (show ¬ atw f L s.1 "vote" from fun w => bI_0 e47 h50 ⟨hs, w⟩), if_neg (show ¬ atw f L s.1 "withdraw" from fun w => bI_0 e58 h61 ⟨hs, w⟩), if_neg (show ¬ atw f L s.1 "sharpen" from fun w => bI_0 e69 h72 ⟨hs, w⟩), if_neg (show ¬ atw f L s.1 "rank" from fun w => bI_0 e81 h84 ⟨hs, w⟩), if_pos (show atw f L s.1 "repeat" from (bI_1 e94 h97).2)]) (by decide)
                · skip
                  refine go_bipush (y := mX11_commandHere) (pc := 87) dX11_commandHere_87 (by decide) ?_
                  refine go_ireturn (y := mX11_commandHere) (pc := 89) dX11_commandHere_89 rfl ?_
                  exact K 7 (by rw [if_neg (show ¬ atw f L s.1 "propose" from fun w => bI_0 e3 h6 ⟨hs, w⟩), if_neg (show ¬ atw f L s.1 "ask" from fun w => bI_0 e14 h17 ⟨hs, w⟩), if_neg (show ¬ atw f L s.1 "rebut" from fun w => bI_0 e25 h28 ⟨hs, w⟩), if_neg (show ¬ atw f L s.1 "wait" from fun w => bI_0 e36 h39 ⟨hs, w⟩), if_neg (show ¬ atw f L s.1 "vote" from fun w => bI_0 e47 h50 ⟨hs, w⟩), if_neg (show ¬ atw f L s.1 "withdraw" from fun w => bI_0 e58 h61 ⟨hs, w⟩), if_neg (show ¬ atw f L s.1 "sharpen" from fun w => bI_0 e69 h72 ⟨hs, w⟩), if_pos (show atw f L s.1 "rank" from (bI_1 e81 h84).2)]) (by decide)
              · skip
                refine go_bipush (y := mX11_commandHere) (pc := 75) dX11_commandHere_75 (by decide) ?_
                refine go_ireturn (y := mX11_commandHere) (pc := 77) dX11_commandHere_77 rfl ?_
                exact K 6 (by rw [if_neg (show ¬ atw f L s.1 "propose" from fun w => bI_0 e3 h6 ⟨hs, w⟩), if_neg (show ¬ atw f L s.1 "ask" from fun w => bI_0 e14 h17 ⟨hs, w⟩), if_neg (show ¬ atw f L s.1 "rebut" from fun w => bI_0 e25 h28 ⟨hs, w⟩), if_neg (show ¬ atw f L s.1 "wait" from fun w => bI_0 e36 h39 ⟨hs, w⟩), if_neg (show ¬ atw f L s.1 "vote" from fun w => bI_0 e47 h50 ⟨hs, w⟩), if_neg (show ¬ atw f L s.1 "withdraw" from fun w => bI_0 e58 h61 ⟨hs, w⟩), if_pos (show atw f L s.1 "sharpen" from (bI_1 e69 h72).2)]) (by decide)
            · skip
              refine go_iconst (y := mX11_commandHere) (pc := 64) dX11_commandHere_64 ?_
              refine go_ireturn (y := mX11_commandHere) (pc := 65) dX11_commandHere_65 rfl ?_
              exact K 5 (by rw [if_neg (show ¬ atw f L s.1 "propose" from fun w => bI_0 e3 h6 ⟨hs, w⟩), if_neg (show ¬ atw f L s.1 "ask" from fun w => bI_0 e14 h17 ⟨hs, w⟩), if_neg (show ¬ atw f L s.1 "rebut" from fun w => bI_0 e25 h28 ⟨hs, w⟩), if_neg (show ¬ atw f L s.1 "wait" from fun w => bI_0 e36 h39 ⟨hs, w⟩), if_neg (show ¬ atw f L s.1 "vote" from fun w => bI_0 e47 h50 ⟨hs, w⟩), if_pos (show atw f L s.1 "withdraw" from (bI_1 e58 h61).2)]) (by decide)
          · skip
            refine go_iconst (y := mX11_commandHere) (pc := 53) dX11_commandHere_53 ?_
            refine go_ireturn (y := mX11_commandHere) (pc := 54) dX11_commandHere_54 rfl ?_
            exact K 4 (by rw [if_neg (show ¬ atw f L s.1 "propose" from fun w => bI_0 e3 h6 ⟨hs, w⟩), if_neg (show ¬ atw f L s.1 "ask" from fun w => bI_0 e14 h17 ⟨hs, w⟩), if_neg (show ¬ atw f L s.1 "rebut" from fun w => bI_0 e25 h28 ⟨hs, w⟩), if_neg (show ¬ atw f L s.1 "wait" from fun w => bI_0 e36 h39 ⟨hs, w⟩), if_pos (show atw f L s.1 "vote" from (bI_1 e47 h50).2)]) (by decide)
        · skip
          refine go_iconst (y := mX11_commandHere) (pc := 42) dX11_commandHere_42 ?_
          refine go_ireturn (y := mX11_commandHere) (pc := 43) dX11_commandHere_43 rfl ?_
          exact K 3 (by rw [if_neg (show ¬ atw f L s.1 "propose" from fun w => bI_0 e3 h6 ⟨hs, w⟩), if_neg (show ¬ atw f L s.1 "ask" from fun w => bI_0 e14 h17 ⟨hs, w⟩), if_neg (show ¬ atw f L s.1 "rebut" from fun w => bI_0 e25 h28 ⟨hs, w⟩), if_pos (show atw f L s.1 "wait" from (bI_1 e36 h39).2)]) (by decide)
      · skip
        refine go_iconst (y := mX11_commandHere) (pc := 31) dX11_commandHere_31 ?_
        refine go_ireturn (y := mX11_commandHere) (pc := 32) dX11_commandHere_32 rfl ?_
        exact K 2 (by rw [if_neg (show ¬ atw f L s.1 "propose" from fun w => bI_0 e3 h6 ⟨hs, w⟩), if_neg (show ¬ atw f L s.1 "ask" from fun w => bI_0 e14 h17 ⟨hs, w⟩), if_pos (show atw f L s.1 "rebut" from (bI_1 e25 h28).2)]) (by decide)
    · skip
      refine go_iconst (y := mX11_commandHere) (pc := 20) dX11_commandHere_20 ?_
      refine go_ireturn (y := mX11_commandHere) (pc := 21) dX11_commandHere_21 rfl ?_
      exact K 1 (by rw [if_neg (show ¬ atw f L s.1 "propose" from fun w => bI_0 e3 h6 ⟨hs, w⟩), if_pos (show atw f L s.1 "ask" from (bI_1 e14 h17).2)]) (by decide)
  · skip
    refine go_iconst (y := mX11_commandHere) (pc := 9) dX11_commandHere_9 ?_
    refine go_ireturn (y := mX11_commandHere) (pc := 10) dX11_commandHere_10 rfl ?_
    exact K 0 (by rw [if_pos (show atw f L s.1 "propose" from (bI_1 e3 h6).2)]) (by decide)
set_option maxRecDepth 8000 in
set_option maxHeartbeats 4000000 in
theorem m_takesSide (hr : rom f L s σ) {Q : Option Value → Mem → Prop} {X : String → Mem → Prop} (K : ∀ σ' v, rom f L (sdS f L s) σ' → smo σ' σ → ((sdS f L s).2.1 = 0 → v = sdm (sdV f L s)) → v = 0 ∨ v = 1 → Q (some (.int (iI v))) (md σ' ν μ)) : mt 289 5 0 0 mX11_takesSide [.ref 276] Q X (md σ ν μ) := by
  show go 289 5 0 0 mX11_takesSide Q X 0 [.ref 276, .null] [] _
  have J37 : ∀ w c : Int, (w = 0 ∨ w = 1) → (w = 1 ↔ (s.2.1 = 0 ∧ atw f L s.1 "for")) → c = bI ((s.2.1 = 0 ∧ atw f L s.1 "for") ∨ (s.2.1 = 0 ∧ atw f L s.1 "against")) → go 289 5 0 0 mX11_takesSide Q X 37 [.ref 276, .int (iI w)] [.int (iI c), .ref 276] (md σ ν μ) := by
    intro w c hw hwe hc
    have em : mus s ((s.2.1 = 0 ∧ atw f L s.1 "for") ∨ (s.2.1 = 0 ∧ atw f L s.1 "against")) 1 = mus s (atw f L s.1 "for" ∨ atw f L s.1 "against") 1 := by
      refine mus_oo (fun g => ⟨fun h => h.elim (fun h => Or.inl h.2) (fun h => Or.inr h.2), fun h => h.elim (fun h => Or.inl ⟨g, h⟩) (fun h => Or.inr ⟨g, h⟩)⟩)
    refine go_iconst (y := mX11_takesSide) (pc := 37) dX11_takesSide_37 ?_
    refine go_callV2 (y := mX11_takesSide) (pc := 38) (y' := mX11_must) (kc2 := 0) (ks2 := 0) dX11_takesSide_38 ml_X11_205 ok_X11_must (show shp 276 = _ from rfl) ⟨_, _, rfl⟩ (by decide) ⟨rfl, rfl⟩ (by decide) (Nat.le_of_ble_eq_true rfl) rfl (m_must hc (by decide) hr (fun σ38 v38 e38 w38 b38 c38 => ?_))
    rw [em] at e38
    refine go_pop (y := mX11_takesSide) (pc := 41) dX11_takesSide_41 rfl ?_
    refine go_aload_n (y := mX11_takesSide) (pc := 42) dX11_takesSide_42 rfl rfl ?_
    refine go_callV0 (y := mX11_takesSide) (pc := 43) (y' := mX11_goesOn) (kc2 := 0) (ks2 := 0) dX11_takesSide_43 ml_X11_208 ok_X11_goesOn (show shp 276 = _ from rfl) ⟨_, _, rfl⟩ (by decide) trivial (by decide) (Nat.le_of_ble_eq_true rfl) rfl (m_goesOn e38 (fun σ43 e43 w43 => ?_))
    refine go_iload_n (y := mX11_takesSide) (pc := 46) dX11_takesSide_46 rfl rfl ?_
    refine go_ireturn (y := mX11_takesSide) (pc := 47) dX11_takesSide_47 rfl ?_
    refine K _ w e43 (smo_t w43 w38) (fun g => ?_) hw
    have g0 := (gm_0 (show (1 : Int) ≠ 0 by decide) g).1
    unfold sdV
    by_cases h : atw f L s.1 "for"
    · rw [if_pos h, hwe.mpr ⟨g0, h⟩]
      rfl
    · rw [if_neg h]
      have h9 : ¬ w = 1 := fun w9 => h (hwe.mp w9).2
      show w = sdm (-1)
      rw [show sdm (-1) = 0 from rfl]
      omega
  have J15 : ∀ w : Int, (w = 0 ∨ w = 1) → (w = 1 ↔ (s.2.1 = 0 ∧ atw f L s.1 "for")) → go 289 5 0 0 mX11_takesSide Q X 15 [.ref 276, .null] [.int (iI w)] (md σ ν μ) := by
    intro w hw hwe
    refine go_istore_n (y := mX11_takesSide) (pc := 15) dX11_takesSide_15 rfl (by decide) ?_
    refine go_aload_n (y := mX11_takesSide) (pc := 16) dX11_takesSide_16 rfl rfl ?_
    refine go_iload_n (y := mX11_takesSide) (pc := 17) dX11_takesSide_17 rfl rfl ?_
    refine go_iconst (y := mX11_takesSide) (pc := 18) dX11_takesSide_18 ?_
    refine go_icmp_eq (y := mX11_takesSide) (pc := 19) (tgt := 32) dX11_takesSide_19 (by decide) (by omega) (by omega) (fun h19 => ?_) (fun h19 => ?_)
    · skip
      refine go_iconst (y := mX11_takesSide) (pc := 32) dX11_takesSide_32 ?_
      refine go_goto (y := mX11_takesSide) (pc := 33) (tgt := 37) dX11_takesSide_33 (by decide) ?_
      exact J37 w 1 hw hwe (bI_t (Or.inl (hwe.mp h19))).symm
    · skip
      refine go_aload_n (y := mX11_takesSide) (pc := 22) dX11_takesSide_22 rfl rfl ?_
      refine go_ldcW (y := mX11_takesSide) (pc := 23) (i := 44) dX11_takesSide_23 rfl ?_
      refine go_callV1 (y := mX11_takesSide) (pc := 26) (y' := mX11_isWord) (kc2 := 0) (ks2 := 0) dX11_takesSide_26 ml_X11_198 ok_X11_isWord (show shp 276 = _ from rfl) ⟨_, _, rfl⟩ (by decide) rfl (by decide) (Nat.le_of_ble_eq_true rfl) rfl (m_isWord (k := 44) rfl hr (fun v26 e26 b26 => ?_))
      refine go_if_eq (y := mX11_takesSide) (pc := 29) (tgt := 36) dX11_takesSide_29 (by decide) (by omega) (fun h29 => ?_) (fun h29 => ?_)
      · skip
        refine go_iconst (y := mX11_takesSide) (pc := 36) dX11_takesSide_36 ?_
        exact J37 w 0 hw hwe (bI_f (fun w9 => w9.elim (fun q => h19 (hwe.mpr q)) (bI_0 e26 h29))).symm
      · skip
        refine go_iconst (y := mX11_takesSide) (pc := 32) dX11_takesSide_32 ?_
        refine go_goto (y := mX11_takesSide) (pc := 33) (tgt := 37) dX11_takesSide_33 (by decide) ?_
        exact J37 w 1 hw hwe (bI_t (Or.inr (bI_1 e26 h29))).symm
  refine go_aload_n (y := mX11_takesSide) (pc := 0) dX11_takesSide_0 rfl rfl ?_
  refine go_ldcW (y := mX11_takesSide) (pc := 1) (i := 43) dX11_takesSide_1 rfl ?_
  refine go_callV1 (y := mX11_takesSide) (pc := 4) (y' := mX11_isWord) (kc2 := 0) (ks2 := 0) dX11_takesSide_4 ml_X11_198 ok_X11_isWord (show shp 276 = _ from rfl) ⟨_, _, rfl⟩ (by decide) rfl (by decide) (Nat.le_of_ble_eq_true rfl) rfl (m_isWord (k := 43) rfl hr (fun v4 e4 b4 => ?_))
  refine go_if_eq (y := mX11_takesSide) (pc := 7) (tgt := 14) dX11_takesSide_7 (by decide) (by omega) (fun h7 => ?_) (fun h7 => ?_)
  · skip
    refine go_iconst (y := mX11_takesSide) (pc := 14) dX11_takesSide_14 ?_
    exact J15 0 (by omega) (iff_of_false (by decide) (bI_0 e4 h7))
  · skip
    refine go_iconst (y := mX11_takesSide) (pc := 10) dX11_takesSide_10 ?_
    refine go_goto (y := mX11_takesSide) (pc := 11) (tgt := 15) dX11_takesSide_11 (by decide) ?_
    exact J15 1 (by omega) (iff_of_true rfl (bI_1 e4 h7))
set_option maxRecDepth 8000 in
set_option maxHeartbeats 4000000 in
theorem m_takesRanking (hr : rom f L s σ) {Q : Option Value → Mem → Prop} {X : String → Mem → Prop} (K : ∀ σ' v, rom f L (rkS f L s) σ' → smo σ' σ → ((rkS f L s).2.1 = 0 → v = rkV f L s) → -1 ≤ v ∧ v ≤ 3 → Q (some (.int (iI v))) (md σ' ν μ)) : mt 289 5 0 0 mX11_takesRanking [.ref 276] Q X (md σ ν μ) := by
  show go 289 5 0 0 mX11_takesRanking Q X 0 [.ref 276, .null] [] _
  have J57 : ∀ v : Int, (s.2.1 = 0 → v = rkV f L s) → -1 ≤ v ∧ v ≤ 3 → go 289 5 0 0 mX11_takesRanking Q X 57 [.ref 276, .null] [.int (iI v)] (md σ ν μ) := by
    intro v hv hb
    have J69 : ∀ c : Int, c = bI (v ≠ -1) → go 289 5 0 0 mX11_takesRanking Q X 69 [.ref 276, .int (iI v)] [.int (iI c), .ref 276] (md σ ν μ) := by
      intro c hc
      have em : mus s (v ≠ -1) 1 = mus s (rkV f L s ≠ -1) 1 := mus_oo (fun g => by rw [hv g])
      refine go_iconst (y := mX11_takesRanking) (pc := 69) dX11_takesRanking_69 ?_
      refine go_callV2 (y := mX11_takesRanking) (pc := 70) (y' := mX11_must) (kc2 := 0) (ks2 := 0) dX11_takesRanking_70 ml_X11_205 ok_X11_must (show shp 276 = _ from rfl) ⟨_, _, rfl⟩ (by decide) ⟨rfl, rfl⟩ (by decide) (Nat.le_of_ble_eq_true rfl) rfl (m_must hc (by decide) hr (fun σ70 v70 e70 w70 b70 c70 => ?_))
      rw [em] at e70
      refine go_pop (y := mX11_takesRanking) (pc := 73) dX11_takesRanking_73 rfl ?_
      refine go_aload_n (y := mX11_takesRanking) (pc := 74) dX11_takesRanking_74 rfl rfl ?_
      refine go_callV0 (y := mX11_takesRanking) (pc := 75) (y' := mX11_goesOn) (kc2 := 0) (ks2 := 0) dX11_takesRanking_75 ml_X11_208 ok_X11_goesOn (show shp 276 = _ from rfl) ⟨_, _, rfl⟩ (by decide) trivial (by decide) (Nat.le_of_ble_eq_true rfl) rfl (m_goesOn e70 (fun σ75 e75 w75 => ?_))
      refine go_iload_n (y := mX11_takesRanking) (pc := 78) dX11_takesRanking_78 rfl rfl ?_
      refine go_ireturn (y := mX11_takesRanking) (pc := 79) dX11_takesRanking_79 rfl ?_
      exact K _ v e75 (smo_t w75 w70) (fun g => hv (gm_0 (show (1 : Int) ≠ 0 by decide) g).1) hb
    refine go_istore_n (y := mX11_takesRanking) (pc := 57) dX11_takesRanking_57 rfl (by decide) ?_
    refine go_aload_n (y := mX11_takesRanking) (pc := 58) dX11_takesRanking_58 rfl rfl ?_
    refine go_iload_n (y := mX11_takesRanking) (pc := 59) dX11_takesRanking_59 rfl rfl ?_
    refine go_iconst (y := mX11_takesRanking) (pc := 60) dX11_takesRanking_60 ?_
    refine go_icmp_eq (y := mX11_takesRanking) (pc := 61) (tgt := 68) dX11_takesRanking_61 (by decide) (by omega) (by omega) (fun h61 => ?_) (fun h61 => ?_)
    · skip
      refine go_iconst (y := mX11_takesRanking) (pc := 68) dX11_takesRanking_68 ?_
      exact J69 0 (bI_f (fun w => w h61)).symm
    · skip
      refine go_iconst (y := mX11_takesRanking) (pc := 64) dX11_takesRanking_64 ?_
      refine go_goto (y := mX11_takesRanking) (pc := 65) (tgt := 69) dX11_takesRanking_65 (by decide) ?_
      exact J69 1 (bI_t h61).symm
  unfold rkV at J57
  refine go_aload_n (y := mX11_takesRanking) (pc := 0) dX11_takesRanking_0 rfl rfl ?_
  refine go_ldcW (y := mX11_takesRanking) (pc := 1) (i := 45) dX11_takesRanking_1 rfl ?_
  refine go_callV1 (y := mX11_takesRanking) (pc := 4) (y' := mX11_isWord) (kc2 := 0) (ks2 := 0) dX11_takesRanking_4 ml_X11_198 ok_X11_isWord (show shp 276 = _ from rfl) ⟨_, _, rfl⟩ (by decide) rfl (by decide) (Nat.le_of_ble_eq_true rfl) rfl (m_isWord (k := 45) rfl hr (fun v4 e4 b4 => ?_))
  refine go_if_eq (y := mX11_takesRanking) (pc := 7) (tgt := 14) dX11_takesRanking_7 (by decide) (by omega) (fun h7 => ?_) (fun h7 => ?_)
  · skip
    skip
    refine go_aload_n (y := mX11_takesRanking) (pc := 14) dX11_takesRanking_14 rfl rfl ?_
    refine go_ldcW (y := mX11_takesRanking) (pc := 15) (i := 46) dX11_takesRanking_15 rfl ?_
    refine go_callV1 (y := mX11_takesRanking) (pc := 18) (y' := mX11_isWord) (kc2 := 0) (ks2 := 0) dX11_takesRanking_18 ml_X11_198 ok_X11_isWord (show shp 276 = _ from rfl) ⟨_, _, rfl⟩ (by decide) rfl (by decide) (Nat.le_of_ble_eq_true rfl) rfl (m_isWord (k := 46) rfl hr (fun v18 e18 b18 => ?_))
    refine go_if_eq (y := mX11_takesRanking) (pc := 21) (tgt := 28) dX11_takesRanking_21 (by decide) (by omega) (fun h21 => ?_) (fun h21 => ?_)
    · skip
      skip
      refine go_aload_n (y := mX11_takesRanking) (pc := 28) dX11_takesRanking_28 rfl rfl ?_
      refine go_ldcW (y := mX11_takesRanking) (pc := 29) (i := 47) dX11_takesRanking_29 rfl ?_
      refine go_callV1 (y := mX11_takesRanking) (pc := 32) (y' := mX11_isWord) (kc2 := 0) (ks2 := 0) dX11_takesRanking_32 ml_X11_198 ok_X11_isWord (show shp 276 = _ from rfl) ⟨_, _, rfl⟩ (by decide) rfl (by decide) (Nat.le_of_ble_eq_true rfl) rfl (m_isWord (k := 47) rfl hr (fun v32 e32 b32 => ?_))
      refine go_if_eq (y := mX11_takesRanking) (pc := 35) (tgt := 42) dX11_takesRanking_35 (by decide) (by omega) (fun h35 => ?_) (fun h35 => ?_)
      · skip
        skip
        refine go_aload_n (y := mX11_takesRanking) (pc := 42) dX11_takesRanking_42 rfl rfl ?_
        refine go_ldcW (y := mX11_takesRanking) (pc := 43) (i := 48) dX11_takesRanking_43 rfl ?_
        refine go_callV1 (y := mX11_takesRanking) (pc := 46) (y' := mX11_isWord) (kc2 := 0) (ks2 := 0) dX11_takesRanking_46 ml_X11_198 ok_X11_isWord (show shp 276 = _ from rfl) ⟨_, _, rfl⟩ (by decide) rfl (by decide) (Nat.le_of_ble_eq_true rfl) rfl (m_isWord (k := 48) rfl hr (fun v46 e46 b46 => ?_))
        refine go_if_eq (y := mX11_takesRanking) (pc := 49) (tgt := 56) dX11_takesRanking_49 (by decide) (by omega) (fun h49 => ?_) (fun h49 => ?_)
        · skip
          refine go_iconst (y := mX11_takesRanking) (pc := 56) dX11_takesRanking_56 ?_
          exact J57 (-1) (fun g => by rw [if_neg (show ¬ atw f L s.1 "arrival" from fun w => bI_0 e4 h7 ⟨g, w⟩), if_neg (show ¬ atw f L s.1 "heaviest" from fun w => bI_0 e18 h21 ⟨g, w⟩), if_neg (show ¬ atw f L s.1 "quietest" from fun w => bI_0 e32 h35 ⟨g, w⟩), if_neg (show ¬ atw f L s.1 "contrast" from fun w => bI_0 e46 h49 ⟨g, w⟩)]) (by decide)
        · skip
          refine go_iconst (y := mX11_takesRanking) (pc := 52) dX11_takesRanking_52 ?_
          refine go_goto (y := mX11_takesRanking) (pc := 53) (tgt := 57) dX11_takesRanking_53 (by decide) ?_
          exact J57 3 (fun g => by rw [if_neg (show ¬ atw f L s.1 "arrival" from fun w => bI_0 e4 h7 ⟨g, w⟩), if_neg (show ¬ atw f L s.1 "heaviest" from fun w => bI_0 e18 h21 ⟨g, w⟩), if_neg (show ¬ atw f L s.1 "quietest" from fun w => bI_0 e32 h35 ⟨g, w⟩), if_pos (show atw f L s.1 "contrast" from (bI_1 e46 h49).2)]) (by decide)
      · skip
        refine go_iconst (y := mX11_takesRanking) (pc := 38) dX11_takesRanking_38 ?_
        refine go_goto (y := mX11_takesRanking) (pc := 39) (tgt := 57) dX11_takesRanking_39 (by decide) ?_
        exact J57 2 (fun g => by rw [if_neg (show ¬ atw f L s.1 "arrival" from fun w => bI_0 e4 h7 ⟨g, w⟩), if_neg (show ¬ atw f L s.1 "heaviest" from fun w => bI_0 e18 h21 ⟨g, w⟩), if_pos (show atw f L s.1 "quietest" from (bI_1 e32 h35).2)]) (by decide)
    · skip
      refine go_iconst (y := mX11_takesRanking) (pc := 24) dX11_takesRanking_24 ?_
      refine go_goto (y := mX11_takesRanking) (pc := 25) (tgt := 57) dX11_takesRanking_25 (by decide) ?_
      exact J57 1 (fun g => by rw [if_neg (show ¬ atw f L s.1 "arrival" from fun w => bI_0 e4 h7 ⟨g, w⟩), if_pos (show atw f L s.1 "heaviest" from (bI_1 e18 h21).2)]) (by decide)
  · skip
    refine go_iconst (y := mX11_takesRanking) (pc := 10) dX11_takesRanking_10 ?_
    refine go_goto (y := mX11_takesRanking) (pc := 11) (tgt := 57) dX11_takesRanking_11 (by decide) ?_
    exact J57 0 (fun g => by rw [if_pos (show atw f L s.1 "arrival" from (bI_1 e4 h7).2)]) (by decide)
set_option maxRecDepth 8000 in
set_option maxHeartbeats 4000000 in
theorem m_readsSingle {k : Int} {i : Nat} (hi : i < 30) (hk : σ 8 i = k) (hkb : 0 ≤ k ∧ k ≤ 7) (hr : rom f L s σ) (hrl : rel S t ν) (hS : wfS S) (hN : ∀ m : Nat, (m : Int) < S 0 7 → isn 6 (S 1 m)) (hT : τ 10 7 = S 0 7 ∧ ∀ m : Nat, τ 11 m = S 1 m) {Q : Option Value → Mem → Prop} {X : String → Mem → Prop} (K : ∀ σ', rom f L (opr f L k i s τ).1 σ' → smI i σ' σ → ((opr f L k i s τ).1.2.1 = 0 → opV i k σ' (opr f L k i s τ).2) → Q none (md σ' ν μ)) : mt 289 6 0 0 mX11_readsSingle [.ref 276, .int (iI (i : Nat))] Q X (md σ ν μ) := by
  show go 289 6 0 0 mX11_readsSingle Q X 0 [.ref 276, .int (iI (i : Nat))] [] _
  have hk9 : k = 0 ∨ k = 1 ∨ k = 2 ∨ k = 3 ∨ k = 4 ∨ k = 5 ∨ k = 6 ∨ k = 7 := by omega
  have eG : ∀ (v : Int) (σ1 : Mem), v = fnd (fun m => n27 (S 1 m) = nmp f L s) (S 0 7).toNat → rom f L (gon f L (mus (nms f L s) (v ≠ -1) 3)) σ1 → rom f L (nmG f L s τ) σ1 := by
    intro v σ1 hv h
    have em : mus (nms f L s) (v ≠ -1) 3 = mus (nms f L s) (nmF f L s τ ≠ -1) 3 := mus_oo (fun g => by rw [hv, nmM hN hT g])
    rw [em] at h
    exact h
  have eV : ∀ v : Int, v = fnd (fun m => n27 (S 1 m) = nmp f L s) (S 0 7).toNat → (nmG f L s τ).2.1 = 0 → v = nmF f L s τ := fun v hv g => by rw [hv]; exact nmM hN hT (gm_0 (show (3 : Int) ≠ 0 by decide) g).1
  unfold opr at K
  rcases hk9 with rfl | rfl | rfl | rfl | rfl | rfl | rfl | rfl
  · skip
    rw [if_pos rfl] at K
    dsimp only at K
    refine go_aload_n (y := mX11_readsSingle) (pc := 0) dX11_readsSingle_0 rfl rfl ?_
    refine go_mref (y := mX11_readsSingle) (pc := 1) dX11_readsSingle_1 fl_X11_36 rfl rfl (by decide) ?_
    refine go_iload_n (y := mX11_readsSingle) (pc := 4) dX11_readsSingle_4 rfl rfl ?_
    refine go_mial (y := mX11_readsSingle) (pc := 5) (r := 8) (k := i) dX11_readsSingle_5 (by decide) (by decide) rfl (by decide) rfl (by omega) (by decide) (fun r5 => ?_)
    refine go_top (b := 0) (hk) (fun t5 => ?_)
    refine go_tbIn (y := mX11_readsSingle) (pc := 6) (off := 42) (tgt := 48) dX11_readsSingle_6 (by decide) (by decide) (by decide) rfl (by decide) ?_
    refine go_aload_n (y := mX11_readsSingle) (pc := 48) dX11_readsSingle_48 rfl rfl ?_
    refine go_mref (y := mX11_readsSingle) (pc := 49) dX11_readsSingle_49 fl_X11_39 rfl rfl (by decide) ?_
    refine go_iload_n (y := mX11_readsSingle) (pc := 52) dX11_readsSingle_52 rfl rfl ?_
    refine go_aload_n (y := mX11_readsSingle) (pc := 53) dX11_readsSingle_53 rfl rfl ?_
    refine go_callV0 (y := mX11_readsSingle) (pc := 54) (y' := mX11_takesMember) (kc2 := 0) (ks2 := 0) dX11_readsSingle_54 ml_X11_276 ok_X11_takesMember (show shp 276 = _ from rfl) ⟨_, _, rfl⟩ (by decide) trivial (by decide) (Nat.le_of_ble_eq_true rfl) rfl (m_takesMember hr hrl hS (fun σ54 v54 x54 b54 e54 w54 => ?_))
    have e54 : rom f L (nmG f L s τ) σ54 := eG v54 σ54 x54 e54
    refine go_mias (y := mX11_readsSingle) (pc := 57) (r := 9) (k := i) dX11_readsSingle_57 (by decide) (by decide) rfl (by decide) rfl (by omega) (by decide) (by omega) ?_
    refine go_aload_n (y := mX11_readsSingle) (pc := 58) dX11_readsSingle_58 rfl rfl ?_
    refine go_mref (y := mX11_readsSingle) (pc := 59) dX11_readsSingle_59 fl_X11_42 rfl rfl (by decide) ?_
    refine go_iload_n (y := mX11_readsSingle) (pc := 62) dX11_readsSingle_62 rfl rfl ?_
    refine go_aload_n (y := mX11_readsSingle) (pc := 63) dX11_readsSingle_63 rfl rfl ?_
    refine go_iconst (y := mX11_readsSingle) (pc := 64) dX11_readsSingle_64 ?_
    refine go_bipush (y := mX11_readsSingle) (pc := 65) dX11_readsSingle_65 (by decide) ?_
    refine go_callV2 (y := mX11_readsSingle) (pc := 67) (y' := mX11_number) (kc2 := 0) (ks2 := 0) dX11_readsSingle_67 ml_X11_222 ok_X11_number (show shp 276 = _ from rfl) ⟨_, _, rfl⟩ (by decide) ⟨rfl, rfl⟩ (by decide) (Nat.le_of_ble_eq_true rfl) rfl (m_number (by omega) (by omega) (rom_w e54 (Or.inl (by decide))) (fun σ67 v67 e67 w67 x67 => ?_))
    refine go_miasW (y := mX11_readsSingle) (pc := 70) (r := 10) (k := i) dX11_readsSingle_70 (by decide) (by decide) rfl (by decide) rfl (by omega) (by decide)  ?_
    refine go_goto (y := mX11_readsSingle) (pc := 71) (tgt := 190) dX11_readsSingle_71 (by decide) ?_
    refine go_return (y := mX11_readsSingle) (pc := 190) dX11_readsSingle_190 rfl ?_
    refine K _ (rom_w e67 (Or.inl (by decide))) (smI_t (smI_w (by decide)) (smI_t (smI_s w67) (smI_t (smI_w (by decide)) (smI_s w54)))) (fun g => ⟨fun _ => ?_, fun _ => ?_, fun w => absurd w (by decide)⟩)
    · rw [wr_na (by decide), w67 9 i (Or.inl (by decide)), wr_s, wr_na (by decide), wr_s]
      exact eV _ x54 (num3_0 g).1
    · rw [wr_s, wr_s]
      exact num_v (by decide) g x67
  · skip
    rw [if_neg (show ¬ (1 : Int) = 0 by decide), if_pos rfl] at K
    dsimp only at K
    refine go_aload_n (y := mX11_readsSingle) (pc := 0) dX11_readsSingle_0 rfl rfl ?_
    refine go_mref (y := mX11_readsSingle) (pc := 1) dX11_readsSingle_1 fl_X11_36 rfl rfl (by decide) ?_
    refine go_iload_n (y := mX11_readsSingle) (pc := 4) dX11_readsSingle_4 rfl rfl ?_
    refine go_mial (y := mX11_readsSingle) (pc := 5) (r := 8) (k := i) dX11_readsSingle_5 (by decide) (by decide) rfl (by decide) rfl (by omega) (by decide) (fun r5 => ?_)
    refine go_top (b := 1) (hk) (fun t5 => ?_)
    refine go_tbIn (y := mX11_readsSingle) (pc := 6) (off := 68) (tgt := 74) dX11_readsSingle_6 (by decide) (by decide) (by decide) rfl (by decide) ?_
    refine go_aload_n (y := mX11_readsSingle) (pc := 74) dX11_readsSingle_74 rfl rfl ?_
    refine go_mref (y := mX11_readsSingle) (pc := 75) dX11_readsSingle_75 fl_X11_39 rfl rfl (by decide) ?_
    refine go_iload_n (y := mX11_readsSingle) (pc := 78) dX11_readsSingle_78 rfl rfl ?_
    refine go_aload_n (y := mX11_readsSingle) (pc := 79) dX11_readsSingle_79 rfl rfl ?_
    refine go_callV0 (y := mX11_readsSingle) (pc := 80) (y' := mX11_takesMember) (kc2 := 0) (ks2 := 0) dX11_readsSingle_80 ml_X11_276 ok_X11_takesMember (show shp 276 = _ from rfl) ⟨_, _, rfl⟩ (by decide) trivial (by decide) (Nat.le_of_ble_eq_true rfl) rfl (m_takesMember hr hrl hS (fun σ80 v80 x80 b80 e80 w80 => ?_))
    have e80 : rom f L (nmG f L s τ) σ80 := eG v80 σ80 x80 e80
    refine go_mias (y := mX11_readsSingle) (pc := 83) (r := 9) (k := i) dX11_readsSingle_83 (by decide) (by decide) rfl (by decide) rfl (by omega) (by decide) (by omega) ?_
    refine go_aload_n (y := mX11_readsSingle) (pc := 84) dX11_readsSingle_84 rfl rfl ?_
    refine go_mref (y := mX11_readsSingle) (pc := 85) dX11_readsSingle_85 fl_X11_45 rfl rfl (by decide) ?_
    refine go_iload_n (y := mX11_readsSingle) (pc := 88) dX11_readsSingle_88 rfl rfl ?_
    refine go_aload_n (y := mX11_readsSingle) (pc := 89) dX11_readsSingle_89 rfl rfl ?_
    refine go_callV0 (y := mX11_readsSingle) (pc := 90) (y' := mX11_takesSide) (kc2 := 0) (ks2 := 0) dX11_readsSingle_90 ml_X11_279 ok_X11_takesSide (show shp 276 = _ from rfl) ⟨_, _, rfl⟩ (by decide) trivial (by decide) (Nat.le_of_ble_eq_true rfl) rfl (m_takesSide (rom_w e80 (Or.inl (by decide))) (fun σ90 v90 e90 w90 x90 b90 => ?_))
    refine go_mias (y := mX11_readsSingle) (pc := 93) (r := 11) (k := i) dX11_readsSingle_93 (by decide) (by decide) rfl (by decide) rfl (by omega) (by decide) (by omega) ?_
    refine go_aload_n (y := mX11_readsSingle) (pc := 94) dX11_readsSingle_94 rfl rfl ?_
    refine go_mref (y := mX11_readsSingle) (pc := 95) dX11_readsSingle_95 fl_X11_42 rfl rfl (by decide) ?_
    refine go_iload_n (y := mX11_readsSingle) (pc := 98) dX11_readsSingle_98 rfl rfl ?_
    refine go_aload_n (y := mX11_readsSingle) (pc := 99) dX11_readsSingle_99 rfl rfl ?_
    refine go_iconst (y := mX11_readsSingle) (pc := 100) dX11_readsSingle_100 ?_
    refine go_bipush (y := mX11_readsSingle) (pc := 101) dX11_readsSingle_101 (by decide) ?_
    refine go_callV2 (y := mX11_readsSingle) (pc := 103) (y' := mX11_number) (kc2 := 0) (ks2 := 0) dX11_readsSingle_103 ml_X11_222 ok_X11_number (show shp 276 = _ from rfl) ⟨_, _, rfl⟩ (by decide) ⟨rfl, rfl⟩ (by decide) (Nat.le_of_ble_eq_true rfl) rfl (m_number (by omega) (by omega) (rom_w e90 (Or.inl (by decide))) (fun σ103 v103 e103 w103 x103 => ?_))
    refine go_miasW (y := mX11_readsSingle) (pc := 106) (r := 10) (k := i) dX11_readsSingle_106 (by decide) (by decide) rfl (by decide) rfl (by omega) (by decide)  ?_
    refine go_goto (y := mX11_readsSingle) (pc := 107) (tgt := 190) dX11_readsSingle_107 (by decide) ?_
    refine go_return (y := mX11_readsSingle) (pc := 190) dX11_readsSingle_190 rfl ?_
    refine K _ (rom_w e103 (Or.inl (by decide))) (smI_t (smI_w (by decide)) (smI_t (smI_s w103) (smI_t (smI_w (by decide)) (smI_t (smI_s w90) (smI_t (smI_w (by decide)) (smI_s w80)))))) (fun g => ⟨fun _ => ?_, fun _ => ?_, fun _ => ?_⟩)
    · rw [wr_na (by decide), w103 9 i (Or.inl (by decide)), wr_na (by decide), w90 9 i (Or.inl (by decide)), wr_s, wr_na (by decide), wr_na (by decide), wr_s]
      exact eV _ x80 (gm_0 (show (1 : Int) ≠ 0 by decide) (num3_0 g).1).1
    · rw [wr_s, wr_s]
      exact num_v (by decide) g x103
    · rw [wr_na (by decide), w103 11 i (Or.inl (by decide)), wr_s, wr_na (by decide), wr_s]
      refine ⟨x90 (num3_0 g).1, ?_⟩
      unfold sdV
      split
      · exact Or.inl rfl
      · exact Or.inr rfl
  · skip
    rw [if_neg (show ¬ (2 : Int) = 0 by decide), if_neg (show ¬ (2 : Int) = 1 by decide), if_pos rfl] at K
    dsimp only at K
    refine go_aload_n (y := mX11_readsSingle) (pc := 0) dX11_readsSingle_0 rfl rfl ?_
    refine go_mref (y := mX11_readsSingle) (pc := 1) dX11_readsSingle_1 fl_X11_36 rfl rfl (by decide) ?_
    refine go_iload_n (y := mX11_readsSingle) (pc := 4) dX11_readsSingle_4 rfl rfl ?_
    refine go_mial (y := mX11_readsSingle) (pc := 5) (r := 8) (k := i) dX11_readsSingle_5 (by decide) (by decide) rfl (by decide) rfl (by omega) (by decide) (fun r5 => ?_)
    refine go_top (b := 2) (hk) (fun t5 => ?_)
    refine go_tbIn (y := mX11_readsSingle) (pc := 6) (off := 104) (tgt := 110) dX11_readsSingle_6 (by decide) (by decide) (by decide) rfl (by decide) ?_
    refine go_aload_n (y := mX11_readsSingle) (pc := 110) dX11_readsSingle_110 rfl rfl ?_
    refine go_mref (y := mX11_readsSingle) (pc := 111) dX11_readsSingle_111 fl_X11_39 rfl rfl (by decide) ?_
    refine go_iload_n (y := mX11_readsSingle) (pc := 114) dX11_readsSingle_114 rfl rfl ?_
    refine go_aload_n (y := mX11_readsSingle) (pc := 115) dX11_readsSingle_115 rfl rfl ?_
    refine go_callV0 (y := mX11_readsSingle) (pc := 116) (y' := mX11_takesMember) (kc2 := 0) (ks2 := 0) dX11_readsSingle_116 ml_X11_276 ok_X11_takesMember (show shp 276 = _ from rfl) ⟨_, _, rfl⟩ (by decide) trivial (by decide) (Nat.le_of_ble_eq_true rfl) rfl (m_takesMember hr hrl hS (fun σ116 v116 x116 b116 e116 w116 => ?_))
    have e116 : rom f L (nmG f L s τ) σ116 := eG v116 σ116 x116 e116
    refine go_mias (y := mX11_readsSingle) (pc := 119) (r := 9) (k := i) dX11_readsSingle_119 (by decide) (by decide) rfl (by decide) rfl (by omega) (by decide) (by omega) ?_
    refine go_aload_n (y := mX11_readsSingle) (pc := 120) dX11_readsSingle_120 rfl rfl ?_
    refine go_mref (y := mX11_readsSingle) (pc := 121) dX11_readsSingle_121 fl_X11_42 rfl rfl (by decide) ?_
    refine go_iload_n (y := mX11_readsSingle) (pc := 124) dX11_readsSingle_124 rfl rfl ?_
    refine go_aload_n (y := mX11_readsSingle) (pc := 125) dX11_readsSingle_125 rfl rfl ?_
    refine go_iconst (y := mX11_readsSingle) (pc := 126) dX11_readsSingle_126 ?_
    refine go_iconst (y := mX11_readsSingle) (pc := 127) dX11_readsSingle_127 ?_
    refine go_callV2 (y := mX11_readsSingle) (pc := 128) (y' := mX11_number) (kc2 := 0) (ks2 := 0) dX11_readsSingle_128 ml_X11_222 ok_X11_number (show shp 276 = _ from rfl) ⟨_, _, rfl⟩ (by decide) ⟨rfl, rfl⟩ (by decide) (Nat.le_of_ble_eq_true rfl) rfl (m_number (by omega) (by omega) (rom_w e116 (Or.inl (by decide))) (fun σ128 v128 e128 w128 x128 => ?_))
    refine go_miasW (y := mX11_readsSingle) (pc := 131) (r := 10) (k := i) dX11_readsSingle_131 (by decide) (by decide) rfl (by decide) rfl (by omega) (by decide)  ?_
    refine go_goto (y := mX11_readsSingle) (pc := 132) (tgt := 190) dX11_readsSingle_132 (by decide) ?_
    refine go_return (y := mX11_readsSingle) (pc := 190) dX11_readsSingle_190 rfl ?_
    refine K _ (rom_w e128 (Or.inl (by decide))) (smI_t (smI_w (by decide)) (smI_t (smI_s w128) (smI_t (smI_w (by decide)) (smI_s w116)))) (fun g => ⟨fun _ => ?_, fun _ => ?_, fun w => absurd w (by decide)⟩)
    · rw [wr_na (by decide), w128 9 i (Or.inl (by decide)), wr_s, wr_na (by decide), wr_s]
      exact eV _ x116 (num3_0 g).1
    · rw [wr_s, wr_s]
      exact num_v (by decide) g x128
  · skip
    rw [if_neg (show ¬ (3 : Int) = 0 by decide), if_neg (show ¬ (3 : Int) = 1 by decide), if_neg (show ¬ (3 : Int) = 2 by decide), if_pos rfl] at K
    dsimp only at K
    refine go_aload_n (y := mX11_readsSingle) (pc := 0) dX11_readsSingle_0 rfl rfl ?_
    refine go_mref (y := mX11_readsSingle) (pc := 1) dX11_readsSingle_1 fl_X11_36 rfl rfl (by decide) ?_
    refine go_iload_n (y := mX11_readsSingle) (pc := 4) dX11_readsSingle_4 rfl rfl ?_
    refine go_mial (y := mX11_readsSingle) (pc := 5) (r := 8) (k := i) dX11_readsSingle_5 (by decide) (by decide) rfl (by decide) rfl (by omega) (by decide) (fun r5 => ?_)
    refine go_top (b := 3) (hk) (fun t5 => ?_)
    refine go_tbIn (y := mX11_readsSingle) (pc := 6) (off := 129) (tgt := 135) dX11_readsSingle_6 (by decide) (by decide) (by decide) rfl (by decide) ?_
    refine go_aload_n (y := mX11_readsSingle) (pc := 135) dX11_readsSingle_135 rfl rfl ?_
    refine go_mref (y := mX11_readsSingle) (pc := 136) dX11_readsSingle_136 fl_X11_42 rfl rfl (by decide) ?_
    refine go_iload_n (y := mX11_readsSingle) (pc := 139) dX11_readsSingle_139 rfl rfl ?_
    refine go_aload_n (y := mX11_readsSingle) (pc := 140) dX11_readsSingle_140 rfl rfl ?_
    refine go_iconst (y := mX11_readsSingle) (pc := 141) dX11_readsSingle_141 ?_
    refine go_bipush (y := mX11_readsSingle) (pc := 142) dX11_readsSingle_142 (by decide) ?_
    refine go_callV2 (y := mX11_readsSingle) (pc := 144) (y' := mX11_number) (kc2 := 0) (ks2 := 0) dX11_readsSingle_144 ml_X11_222 ok_X11_number (show shp 276 = _ from rfl) ⟨_, _, rfl⟩ (by decide) ⟨rfl, rfl⟩ (by decide) (Nat.le_of_ble_eq_true rfl) rfl (m_number (by omega) (by omega) hr (fun σ144 v144 e144 w144 x144 => ?_))
    refine go_miasW (y := mX11_readsSingle) (pc := 147) (r := 10) (k := i) dX11_readsSingle_147 (by decide) (by decide) rfl (by decide) rfl (by omega) (by decide)  ?_
    refine go_goto (y := mX11_readsSingle) (pc := 148) (tgt := 190) dX11_readsSingle_148 (by decide) ?_
    refine go_return (y := mX11_readsSingle) (pc := 190) dX11_readsSingle_190 rfl ?_
    refine K _ (rom_w e144 (Or.inl (by decide))) (smI_t (smI_w (by decide)) (smI_s w144)) (fun g => ⟨fun w => absurd w (by decide), fun _ => ?_, fun w => absurd w (by decide)⟩)
    rw [wr_s, wr_s]
    exact num_v (by decide) g x144
  · skip
    rw [if_neg (show ¬ (4 : Int) = 0 by decide), if_neg (show ¬ (4 : Int) = 1 by decide), if_neg (show ¬ (4 : Int) = 2 by decide), if_neg (show ¬ (4 : Int) = 3 by decide), if_neg (show ¬ (4 : Int) = 6 by decide), if_neg (show ¬ (4 : Int) = 7 by decide), if_neg (show ¬ (4 : Int) = 8 by decide)] at K
    dsimp only at K
    refine go_aload_n (y := mX11_readsSingle) (pc := 0) dX11_readsSingle_0 rfl rfl ?_
    refine go_mref (y := mX11_readsSingle) (pc := 1) dX11_readsSingle_1 fl_X11_36 rfl rfl (by decide) ?_
    refine go_iload_n (y := mX11_readsSingle) (pc := 4) dX11_readsSingle_4 rfl rfl ?_
    refine go_mial (y := mX11_readsSingle) (pc := 5) (r := 8) (k := i) dX11_readsSingle_5 (by decide) (by decide) rfl (by decide) rfl (by omega) (by decide) (fun r5 => ?_)
    refine go_top (b := 4) (hk) (fun t5 => ?_)
    refine go_tbIn (y := mX11_readsSingle) (pc := 6) (off := 145) (tgt := 151) dX11_readsSingle_6 (by decide) (by decide) (by decide) rfl (by decide) ?_
    refine go_aload_n (y := mX11_readsSingle) (pc := 151) dX11_readsSingle_151 rfl rfl ?_
    refine go_mref (y := mX11_readsSingle) (pc := 152) dX11_readsSingle_152 fl_X11_42 rfl rfl (by decide) ?_
    refine go_iload_n (y := mX11_readsSingle) (pc := 155) dX11_readsSingle_155 rfl rfl ?_
    refine go_aload_n (y := mX11_readsSingle) (pc := 156) dX11_readsSingle_156 rfl rfl ?_
    refine go_iconst (y := mX11_readsSingle) (pc := 157) dX11_readsSingle_157 ?_
    refine go_bipush (y := mX11_readsSingle) (pc := 158) dX11_readsSingle_158 (by decide) ?_
    refine go_callV2 (y := mX11_readsSingle) (pc := 160) (y' := mX11_number) (kc2 := 0) (ks2 := 0) dX11_readsSingle_160 ml_X11_222 ok_X11_number (show shp 276 = _ from rfl) ⟨_, _, rfl⟩ (by decide) ⟨rfl, rfl⟩ (by decide) (Nat.le_of_ble_eq_true rfl) rfl (m_number (by omega) (by omega) hr (fun σ160 v160 e160 w160 x160 => ?_))
    refine go_miasW (y := mX11_readsSingle) (pc := 163) (r := 10) (k := i) dX11_readsSingle_163 (by decide) (by decide) rfl (by decide) rfl (by omega) (by decide)  ?_
    refine go_goto (y := mX11_readsSingle) (pc := 164) (tgt := 190) dX11_readsSingle_164 (by decide) ?_
    refine go_return (y := mX11_readsSingle) (pc := 190) dX11_readsSingle_190 rfl ?_
    refine K _ (rom_w e160 (Or.inl (by decide))) (smI_t (smI_w (by decide)) (smI_s w160)) (fun g => ⟨fun w => absurd w (by decide), fun _ => ?_, fun w => absurd w (by decide)⟩)
    rw [wr_s, wr_s]
    exact num_v (by decide) g x160
  · skip
    rw [if_neg (show ¬ (5 : Int) = 0 by decide), if_neg (show ¬ (5 : Int) = 1 by decide), if_neg (show ¬ (5 : Int) = 2 by decide), if_neg (show ¬ (5 : Int) = 3 by decide), if_neg (show ¬ (5 : Int) = 6 by decide), if_neg (show ¬ (5 : Int) = 7 by decide), if_neg (show ¬ (5 : Int) = 8 by decide)] at K
    dsimp only at K
    refine go_aload_n (y := mX11_readsSingle) (pc := 0) dX11_readsSingle_0 rfl rfl ?_
    refine go_mref (y := mX11_readsSingle) (pc := 1) dX11_readsSingle_1 fl_X11_36 rfl rfl (by decide) ?_
    refine go_iload_n (y := mX11_readsSingle) (pc := 4) dX11_readsSingle_4 rfl rfl ?_
    refine go_mial (y := mX11_readsSingle) (pc := 5) (r := 8) (k := i) dX11_readsSingle_5 (by decide) (by decide) rfl (by decide) rfl (by omega) (by decide) (fun r5 => ?_)
    refine go_top (b := 5) (hk) (fun t5 => ?_)
    refine go_tbIn (y := mX11_readsSingle) (pc := 6) (off := 145) (tgt := 151) dX11_readsSingle_6 (by decide) (by decide) (by decide) rfl (by decide) ?_
    refine go_aload_n (y := mX11_readsSingle) (pc := 151) dX11_readsSingle_151 rfl rfl ?_
    refine go_mref (y := mX11_readsSingle) (pc := 152) dX11_readsSingle_152 fl_X11_42 rfl rfl (by decide) ?_
    refine go_iload_n (y := mX11_readsSingle) (pc := 155) dX11_readsSingle_155 rfl rfl ?_
    refine go_aload_n (y := mX11_readsSingle) (pc := 156) dX11_readsSingle_156 rfl rfl ?_
    refine go_iconst (y := mX11_readsSingle) (pc := 157) dX11_readsSingle_157 ?_
    refine go_bipush (y := mX11_readsSingle) (pc := 158) dX11_readsSingle_158 (by decide) ?_
    refine go_callV2 (y := mX11_readsSingle) (pc := 160) (y' := mX11_number) (kc2 := 0) (ks2 := 0) dX11_readsSingle_160 ml_X11_222 ok_X11_number (show shp 276 = _ from rfl) ⟨_, _, rfl⟩ (by decide) ⟨rfl, rfl⟩ (by decide) (Nat.le_of_ble_eq_true rfl) rfl (m_number (by omega) (by omega) hr (fun σ160 v160 e160 w160 x160 => ?_))
    refine go_miasW (y := mX11_readsSingle) (pc := 163) (r := 10) (k := i) dX11_readsSingle_163 (by decide) (by decide) rfl (by decide) rfl (by omega) (by decide)  ?_
    refine go_goto (y := mX11_readsSingle) (pc := 164) (tgt := 190) dX11_readsSingle_164 (by decide) ?_
    refine go_return (y := mX11_readsSingle) (pc := 190) dX11_readsSingle_190 rfl ?_
    refine K _ (rom_w e160 (Or.inl (by decide))) (smI_t (smI_w (by decide)) (smI_s w160)) (fun g => ⟨fun w => absurd w (by decide), fun _ => ?_, fun w => absurd w (by decide)⟩)
    rw [wr_s, wr_s]
    exact num_v (by decide) g x160
  · skip
    rw [if_neg (show ¬ (6 : Int) = 0 by decide), if_neg (show ¬ (6 : Int) = 1 by decide), if_neg (show ¬ (6 : Int) = 2 by decide), if_neg (show ¬ (6 : Int) = 3 by decide), if_pos rfl] at K
    dsimp only at K
    refine go_aload_n (y := mX11_readsSingle) (pc := 0) dX11_readsSingle_0 rfl rfl ?_
    refine go_mref (y := mX11_readsSingle) (pc := 1) dX11_readsSingle_1 fl_X11_36 rfl rfl (by decide) ?_
    refine go_iload_n (y := mX11_readsSingle) (pc := 4) dX11_readsSingle_4 rfl rfl ?_
    refine go_mial (y := mX11_readsSingle) (pc := 5) (r := 8) (k := i) dX11_readsSingle_5 (by decide) (by decide) rfl (by decide) rfl (by omega) (by decide) (fun r5 => ?_)
    refine go_top (b := 6) (hk) (fun t5 => ?_)
    refine go_tbIn (y := mX11_readsSingle) (pc := 6) (off := 161) (tgt := 167) dX11_readsSingle_6 (by decide) (by decide) (by decide) rfl (by decide) ?_
    refine go_aload_n (y := mX11_readsSingle) (pc := 167) dX11_readsSingle_167 rfl rfl ?_
    refine go_mref (y := mX11_readsSingle) (pc := 168) dX11_readsSingle_168 fl_X11_39 rfl rfl (by decide) ?_
    refine go_iload_n (y := mX11_readsSingle) (pc := 171) dX11_readsSingle_171 rfl rfl ?_
    refine go_aload_n (y := mX11_readsSingle) (pc := 172) dX11_readsSingle_172 rfl rfl ?_
    refine go_callV0 (y := mX11_readsSingle) (pc := 173) (y' := mX11_takesMember) (kc2 := 0) (ks2 := 0) dX11_readsSingle_173 ml_X11_276 ok_X11_takesMember (show shp 276 = _ from rfl) ⟨_, _, rfl⟩ (by decide) trivial (by decide) (Nat.le_of_ble_eq_true rfl) rfl (m_takesMember hr hrl hS (fun σ173 v173 x173 b173 e173 w173 => ?_))
    have e173 : rom f L (nmG f L s τ) σ173 := eG v173 σ173 x173 e173
    refine go_mias (y := mX11_readsSingle) (pc := 176) (r := 9) (k := i) dX11_readsSingle_176 (by decide) (by decide) rfl (by decide) rfl (by omega) (by decide) (by omega) ?_
    refine go_goto (y := mX11_readsSingle) (pc := 177) (tgt := 190) dX11_readsSingle_177 (by decide) ?_
    refine go_return (y := mX11_readsSingle) (pc := 190) dX11_readsSingle_190 rfl ?_
    refine K _ (rom_w e173 (Or.inl (by decide))) (smI_t (smI_w (by decide)) (smI_s w173)) (fun g => ⟨fun _ => ?_, fun w => absurd rfl w, fun w => absurd w (by decide)⟩)
    rw [wr_s, wr_s]
    exact eV _ x173 g
  · skip
    rw [if_neg (show ¬ (7 : Int) = 0 by decide), if_neg (show ¬ (7 : Int) = 1 by decide), if_neg (show ¬ (7 : Int) = 2 by decide), if_neg (show ¬ (7 : Int) = 3 by decide), if_neg (show ¬ (7 : Int) = 6 by decide), if_pos rfl] at K
    dsimp only at K
    refine go_aload_n (y := mX11_readsSingle) (pc := 0) dX11_readsSingle_0 rfl rfl ?_
    refine go_mref (y := mX11_readsSingle) (pc := 1) dX11_readsSingle_1 fl_X11_36 rfl rfl (by decide) ?_
    refine go_iload_n (y := mX11_readsSingle) (pc := 4) dX11_readsSingle_4 rfl rfl ?_
    refine go_mial (y := mX11_readsSingle) (pc := 5) (r := 8) (k := i) dX11_readsSingle_5 (by decide) (by decide) rfl (by decide) rfl (by omega) (by decide) (fun r5 => ?_)
    refine go_top (b := 7) (hk) (fun t5 => ?_)
    refine go_tbOut (y := mX11_readsSingle) (pc := 6) (tgt := 180) dX11_readsSingle_6 (by omega) (by omega) (by decide) ?_
    refine go_aload_n (y := mX11_readsSingle) (pc := 180) dX11_readsSingle_180 rfl rfl ?_
    refine go_mref (y := mX11_readsSingle) (pc := 181) dX11_readsSingle_181 fl_X11_42 rfl rfl (by decide) ?_
    refine go_iload_n (y := mX11_readsSingle) (pc := 184) dX11_readsSingle_184 rfl rfl ?_
    refine go_aload_n (y := mX11_readsSingle) (pc := 185) dX11_readsSingle_185 rfl rfl ?_
    refine go_callV0 (y := mX11_readsSingle) (pc := 186) (y' := mX11_takesRanking) (kc2 := 0) (ks2 := 0) dX11_readsSingle_186 ml_X11_282 ok_X11_takesRanking (show shp 276 = _ from rfl) ⟨_, _, rfl⟩ (by decide) trivial (by decide) (Nat.le_of_ble_eq_true rfl) rfl (m_takesRanking hr (fun σ186 v186 e186 w186 x186 b186 => ?_))
    refine go_mias (y := mX11_readsSingle) (pc := 189) (r := 10) (k := i) dX11_readsSingle_189 (by decide) (by decide) rfl (by decide) rfl (by omega) (by decide) (by omega) ?_
    refine go_return (y := mX11_readsSingle) (pc := 190) dX11_readsSingle_190 rfl ?_
    refine K _ (rom_w e186 (Or.inl (by decide))) (smI_t (smI_w (by decide)) (smI_s w186)) (fun g => ⟨fun w => absurd w (by decide), fun _ => ?_, fun w => absurd w (by decide)⟩)
    rw [wr_s, wr_s]
    exact x186 g
end MScript
