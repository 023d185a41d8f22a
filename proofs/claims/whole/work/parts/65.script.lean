/-! SCRIPTS READ BY THE CLASS: words, operands -/
def kwV (f : Int → Int) (L : Nat) (s : Sta) : Int := if atw f L s.1 "propose" then 0 else if atw f L s.1 "ask" then 1 else if atw f L s.1 "rebut" then 2 else if atw f L s.1 "wait" then 3 else if atw f L s.1 "vote" then 4 else if atw f L s.1 "withdraw" then 5 else if atw f L s.1 "sharpen" then 6 else if atw f L s.1 "rank" then 7 else if atw f L s.1 "repeat" then 8 else -1
def rkV (f : Int → Int) (L : Nat) (s : Sta) : Int := if atw f L s.1 "arrival" then 0 else if atw f L s.1 "heaviest" then 1 else if atw f L s.1 "quietest" then 2 else if atw f L s.1 "contrast" then 3 else -1
def rkS (f : Int → Int) (L : Nat) (s : Sta) : Sta := gon f L (mus s (rkV f L s ≠ -1) 1)
def sdV (f : Int → Int) (L : Nat) (s : Sta) : Int := if atw f L s.1 "for" then 1 else -1
def sdS (f : Int → Int) (L : Nat) (s : Sta) : Sta := gon f L (mus s (atw f L s.1 "for" ∨ atw f L s.1 "against") 1)
def nmF (f : Int → Int) (L : Nat) (s : Sta) (μ : Mem) : Int := fnd (fun m => μ 11 m = nbt f s.1 (tkE f L s.1)) (μ 10 7).toNat
def nmG (f : Int → Int) (L : Nat) (s : Sta) (μ : Mem) : Sta := gon f L (mus (nms f L s) (nmF f L s μ ≠ -1) 3)
/-- the operands of a command of kind k, its number is i -/
def opr (f : Int → Int) (L : Nat) (k : Int) (i : Nat) (s : Sta) (μ : Mem) : Sta × Mem :=
  if k = 0 then (num3 f L (nmG f L s μ) 0 20, wr (wr μ 6 i (nmF f L s μ)) 8 i (tkn3 f L (nmG f L s μ) 0 20))
  else if k = 1 then (num3 f L (sdS f L (nmG f L s μ)) 0 15, wr (wr (wr μ 6 i (nmF f L s μ)) 7 i (sdV f L (nmG f L s μ))) 8 i (tkn3 f L (sdS f L (nmG f L s μ)) 0 15))
  else if k = 2 then (num3 f L (nmG f L s μ) 0 3, wr (wr μ 6 i (nmF f L s μ)) 8 i (tkn3 f L (nmG f L s μ) 0 3))
  else if k = 3 then (num3 f L s 1 60, wr μ 8 i (tkn3 f L s 1 60))
  else if k = 6 then (nmG f L s μ, wr μ 6 i (nmF f L s μ))
  else if k = 7 then (rkS f L s, wr μ 8 i (rkV f L s))
  else if k = 8 then (num3 f L s 0 20, wr μ 8 i (tkn3 f L s 0 20))
  else (num3 f L s 0 15, wr μ 8 i (tkn3 f L s 0 15))
section FScript
variable {f : Int → Int} {ρ : Nat → Int} {μ : Mem} {L : Nat} {s : Sta}
set_option maxRecDepth 8000 in
set_option maxHeartbeats 4000000 in
theorem f_kindOfWord (ht : okT f L μ) (hr : rok f L s ρ) {Q : Option Value → Mem → Prop} {X : String → Mem → Prop} (K : ∀ v, v = kwV f L s → -1 ≤ v ∧ v ≤ 8 → Q (some (.int (iI v))) (pr ρ μ)) : mt 276 5 0 0 mX6_kindOfWord [.ref 3] Q X (pr ρ μ) := by
  show go 276 5 0 0 mX6_kindOfWord Q X 0 [.ref 3] [] _
  unfold kwV at K
  refine go_aload_n (y := mX6_kindOfWord) (pc := 0) dX6_kindOfWord_0 rfl rfl ?_
  refine go_ldc (y := mX6_kindOfWord) (pc := 1) (i := 3) dX6_kindOfWord_1 rfl ?_
  refine go_callV1 (y := mX6_kindOfWord) (pc := 3) (y' := mX9_isAtWord_) (kc2 := 0) (ks2 := 0) dX6_kindOfWord_3 ml_X6_71 ok_X9_isAtWord_ (show shp 3 = _ from rfl) ⟨_, _, rfl⟩ (by decide) rfl (by decide) (Nat.le_of_ble_eq_true rfl) rfl (f_isWord (k := 3) rfl ht hr (fun v3 e3 b3 => ?_))
  refine go_if_eq (y := mX6_kindOfWord) (pc := 6) (tgt := 11) dX6_kindOfWord_6 (by decide) (by omega) (fun h6 => ?_) (fun h6 => ?_)
  · skip
    skip
    refine go_aload_n (y := mX6_kindOfWord) (pc := 11) dX6_kindOfWord_11 rfl rfl ?_
    refine go_ldc (y := mX6_kindOfWord) (pc := 12) (i := 4) dX6_kindOfWord_12 rfl ?_
    refine go_callV1 (y := mX6_kindOfWord) (pc := 14) (y' := mX9_isAtWord_) (kc2 := 0) (ks2 := 0) dX6_kindOfWord_14 ml_X6_71 ok_X9_isAtWord_ (show shp 3 = _ from rfl) ⟨_, _, rfl⟩ (by decide) rfl (by decide) (Nat.le_of_ble_eq_true rfl) rfl (f_isWord (k := 4) rfl ht hr (fun v14 e14 b14 => ?_))
    refine go_if_eq (y := mX6_kindOfWord) (pc := 17) (tgt := 22) dX6_kindOfWord_17 (by decide) (by omega) (fun h17 => ?_) (fun h17 => ?_)
    · skip
      skip
      refine go_aload_n (y := mX6_kindOfWord) (pc := 22) dX6_kindOfWord_22 rfl rfl ?_
      refine go_ldc (y := mX6_kindOfWord) (pc := 23) (i := 5) dX6_kindOfWord_23 rfl ?_
      refine go_callV1 (y := mX6_kindOfWord) (pc := 25) (y' := mX9_isAtWord_) (kc2 := 0) (ks2 := 0) dX6_kindOfWord_25 ml_X6_71 ok_X9_isAtWord_ (show shp 3 = _ from rfl) ⟨_, _, rfl⟩ (by decide) rfl (by decide) (Nat.le_of_ble_eq_true rfl) rfl (f_isWord (k := 5) rfl ht hr (fun v25 e25 b25 => ?_))
      refine go_if_eq (y := mX6_kindOfWord) (pc := 28) (tgt := 33) dX6_kindOfWord_28 (by decide) (by omega) (fun h28 => ?_) (fun h28 => ?_)
      · skip
        skip
        refine go_aload_n (y := mX6_kindOfWord) (pc := 33) dX6_kindOfWord_33 rfl rfl ?_
        refine go_ldc (y := mX6_kindOfWord) (pc := 34) (i := 6) dX6_kindOfWord_34 rfl ?_
        refine go_callV1 (y := mX6_kindOfWord) (pc := 36) (y' := mX9_isAtWord_) (kc2 := 0) (ks2 := 0) dX6_kindOfWord_36 ml_X6_71 ok_X9_isAtWord_ (show shp 3 = _ from rfl) ⟨_, _, rfl⟩ (by decide) rfl (by decide) (Nat.le_of_ble_eq_true rfl) rfl (f_isWord (k := 6) rfl ht hr (fun v36 e36 b36 => ?_))
        refine go_if_eq (y := mX6_kindOfWord) (pc := 39) (tgt := 44) dX6_kindOfWord_39 (by decide) (by omega) (fun h39 => ?_) (fun h39 => ?_)
        · skip
          skip
          refine go_aload_n (y := mX6_kindOfWord) (pc := 44) dX6_kindOfWord_44 rfl rfl ?_
          refine go_ldc (y := mX6_kindOfWord) (pc := 45) (i := 7) dX6_kindOfWord_45 rfl ?_
          refine go_callV1 (y := mX6_kindOfWord) (pc := 47) (y' := mX9_isAtWord_) (kc2 := 0) (ks2 := 0) dX6_kindOfWord_47 ml_X6_71 ok_X9_isAtWord_ (show shp 3 = _ from rfl) ⟨_, _, rfl⟩ (by decide) rfl (by decide) (Nat.le_of_ble_eq_true rfl) rfl (f_isWord (k := 7) rfl ht hr (fun v47 e47 b47 => ?_))
          refine go_if_eq (y := mX6_kindOfWord) (pc := 50) (tgt := 55) dX6_kindOfWord_50 (by decide) (by omega) (fun h50 => ?_) (fun h50 => ?_)
          · skip
            skip
            refine go_aload_n (y := mX6_kindOfWord) (pc := 55) dX6_kindOfWord_55 rfl rfl ?_
            refine go_ldc (y := mX6_kindOfWord) (pc := 56) (i := 8) dX6_kindOfWord_56 rfl ?_
            refine go_callV1 (y := mX6_kindOfWord) (pc := 58) (y' := mX9_isAtWord_) (kc2 := 0) (ks2 := 0) dX6_kindOfWord_58 ml_X6_71 ok_X9_isAtWord_ (show shp 3 = _ from rfl) ⟨_, _, rfl⟩ (by decide) rfl (by decide) (Nat.le_of_ble_eq_true rfl) rfl (f_isWord (k := 8) rfl ht hr (fun v58 e58 b58 => ?_))
            refine go_if_eq (y := mX6_kindOfWord) (pc := 61) (tgt := 66) dX6_kindOfWord_61 (by decide) (by omega) (fun h61 => ?_) (fun h61 => ?_)
            · skip
              skip
              refine go_aload_n (y := mX6_kindOfWord) (pc := 66) dX6_kindOfWord_66 rfl rfl ?_
              refine go_ldc (y := mX6_kindOfWord) (pc := 67) (i := 9) dX6_kindOfWord_67 rfl ?_
              refine go_callV1 (y := mX6_kindOfWord) (pc := 69) (y' := mX9_isAtWord_) (kc2 := 0) (ks2 := 0) dX6_kindOfWord_69 ml_X6_71 ok_X9_isAtWord_ (show shp 3 = _ from rfl) ⟨_, _, rfl⟩ (by decide) rfl (by decide) (Nat.le_of_ble_eq_true rfl) rfl (f_isWord (k := 9) rfl ht hr (fun v69 e69 b69 => ?_))
              refine go_if_eq (y := mX6_kindOfWord) (pc := 72) (tgt := 78) dX6_kindOfWord_72 (by decide) (by omega) (fun h72 => ?_) (fun h72 => ?_)
              · skip
                skip
                refine go_aload_n (y := mX6_kindOfWord) (pc := 78) dX6_kindOfWord_78 rfl rfl ?_
                refine go_ldc (y := mX6_kindOfWord) (pc := 79) (i := 10) dX6_kindOfWord_79 rfl ?_
                refine go_callV1 (y := mX6_kindOfWord) (pc := 81) (y' := mX9_isAtWord_) (kc2 := 0) (ks2 := 0) dX6_kindOfWord_81 ml_X6_71 ok_X9_isAtWord_ (show shp 3 = _ from rfl) ⟨_, _, rfl⟩ (by decide) rfl (by decide) (Nat.le_of_ble_eq_true rfl) rfl (f_isWord (k := 10) rfl ht hr (fun v81 e81 b81 => ?_))
                refine go_if_eq (y := mX6_kindOfWord) (pc := 84) (tgt := 90) dX6_kindOfWord_84 (by decide) (by omega) (fun h84 => ?_) (fun h84 => ?_)
                · skip
                  skip
                  refine go_aload_n (y := mX6_kindOfWord) (pc := 90) dX6_kindOfWord_90 rfl rfl ?_
                  refine go_ldc (y := mX6_kindOfWord) (pc := 91) (i := 11) dX6_kindOfWord_91 rfl ?_
                  refine go_callV1 (y := mX6_kindOfWord) (pc := 93) (y' := mX9_isAtWord_) (kc2 := 0) (ks2 := 0) dX6_kindOfWord_93 ml_X6_71 ok_X9_isAtWord_ (show shp 3 = _ from rfl) ⟨_, _, rfl⟩ (by decide) rfl (by decide) (Nat.le_of_ble_eq_true rfl) rfl (f_isWord (k := 11) rfl ht hr (fun v93 e93 b93 => ?_))
                  refine go_if_eq (y := mX6_kindOfWord) (pc := 96) (tgt := 104) dX6_kindOfWord_96 (by decide) (by omega) (fun h96 => ?_) (fun h96 => ?_)
                  · skip
                    refine go_iconst (y := mX6_kindOfWord) (pc := 104) dX6_kindOfWord_104 ?_
                    refine go_ireturn (y := mX6_kindOfWord) (pc := 105) dX6_kindOfWord_105 rfl ?_
                    exact K (-1) (by rw [if_neg (show ¬ atw f L s.1 "propose" from bI_0 e3 h6), if_neg (show ¬ atw f L s.1 "ask" from bI_0 e14 h17), if_neg (show ¬ atw f L s.1 "rebut" from bI_0 e25 h28), if_neg (show ¬ atw f L s.1 "wait" from bI_0 e36 h39), if_neg (show ¬ atw f L s.1 "vote" from bI_0 e47 h50), if_neg (show ¬ atw f L s.1 "withdraw" from bI_0 e58 h61), if_neg (show ¬ atw f L s.1 "sharpen" from bI_0 e69 h72), if_neg (show ¬ atw f L s.1 "rank" from bI_0 e81 h84), if_neg (show ¬ atw f L s.1 "repeat" from bI_0 e93 h96)]) (by decide)
                  · skip
                    refine go_bipush (y := mX6_kindOfWord) (pc := 99) dX6_kindOfWord_99 (by decide) ?_
                    refine go_goto (y := mX6_kindOfWord) (pc := 101) (tgt := 105) dX6_kindOfWord_101 (by decide) ?_
                    refine go_ireturn (y := mX6_kindOfWord) (pc := 105) dX6_kindOfWord_105 rfl ?_
                    exact K 8 (by rw [if_neg (show ¬ atw f L s.1 "propose" from bI_0 e3 h6), if_neg (show ¬ atw f L s.1 "ask" from bI_0 e14 h17), if_neg (show ¬ atw f L s.1 "rebut" from bI_0 e25 h28), if_neg (show ¬ atw f L s.1 "wait" from bI_0 e36 h39), if_neg (show ¬ atw f L s.1 "vote" from bI_0 e47 h50), if_neg (show ¬ atw f L s.1 "withdraw" from bI_0 e58 h61), if_neg (show ¬ atw f L s.1 "sharpen" from bI_0 e69 h72), if_neg (show ¬ atw f L s.1 "rank" from bI_0 e81 h84), if_pos (show atw f L s.1 "repeat" from bI_1 e93 h96)]) (by decide)
                · skip
                  refine go_bipush (y := mX6_kindOfWord) (pc := 87) dX6_kindOfWord_87 (by decide) ?_
                  refine go_ireturn (y := mX6_kindOfWord) (pc := 89) dX6_kindOfWord_89 rfl ?_
                  exact K 7 (by rw [if_neg (show ¬ atw f L s.1 "propose" from bI_0 e3 h6), if_neg (show ¬ atw f L s.1 "ask" from bI_0 e14 h17), if_neg (show ¬ atw f L s.1 "rebut" from bI_0 e25 h28), if_neg (show ¬ atw f L s.1 "wait" from bI_0 e36 h39), if_neg (show ¬ atw f L s.1 "vote" from bI_0 e47 h50), if_neg (show ¬ atw f L s.1 "withdraw" from bI_0 e58 h61), if_neg (show ¬ atw f L s.1 "sharpen" from bI_0 e69 h72), if_pos (show atw f L s.1 "rank" from bI_1 e81 h84)]) (by decide)
              · skip
                refine go_bipush (y := mX6_kindOfWord) (pc := 75) dX6_kindOfWord_75 (by decide) ?_
                refine go_ireturn (y := mX6_kindOfWord) (pc := 77) dX6_kindOfWord_77 rfl ?_
                exact K 6 (by rw [if_neg (show ¬ atw f L s.1 "propose" from bI_0 e3 h6), if_neg (show ¬ atw f L s.1 "ask" from bI_0 e14 h17), if_neg (show ¬ atw f L s.1 "rebut" from bI_0 e25 h28), if_neg (show ¬ atw f L s.1 "wait" from bI_0 e36 h39), if_neg (show ¬ atw f L s.1 "vote" from bI_0 e47 h50), if_neg (show ¬ atw f L s.1 "withdraw" from bI_0 e58 h61), if_pos (show atw f L s.1 "sharpen" from bI_1 e69 h72)]) (by decide)
            · skip
              refine go_iconst (y := mX6_kindOfWord) (pc := 64) dX6_kindOfWord_64 ?_
              refine go_ireturn (y := mX6_kindOfWord) (pc := 65) dX6_kindOfWord_65 rfl ?_
              exact K 5 (by rw [if_neg (show ¬ atw f L s.1 "propose" from bI_0 e3 h6), if_neg (show ¬ atw f L s.1 "ask" from bI_0 e14 h17), if_neg (show ¬ atw f L s.1 "rebut" from bI_0 e25 h28), if_neg (show ¬ atw f L s.1 "wait" from bI_0 e36 h39), if_neg (show ¬ atw f L s.1 "vote" from bI_0 e47 h50), if_pos (show atw f L s.1 "withdraw" from bI_1 e58 h61)]) (by decide)
          · skip
            refine go_iconst (y := mX6_kindOfWord) (pc := 53) dX6_kindOfWord_53 ?_
            refine go_ireturn (y := mX6_kindOfWord) (pc := 54) dX6_kindOfWord_54 rfl ?_
            exact K 4 (by rw [if_neg (show ¬ atw f L s.1 "propose" from bI_0 e3 h6), if_neg (show ¬ atw f L s.1 "ask" from bI_0 e14 h17), if_neg (show ¬ atw f L s.1 "rebut" from bI_0 e25 h28), if_neg (show ¬ atw f L s.1 "wait" from bI_0 e36 h39), if_pos (show atw f L s.1 "vote" from bI_1 e47 h50)]) (by decide)
        · skip
          refine go_iconst (y := mX6_kindOfWord) (pc := 42) dX6_kindOfWord_42 ?_
          refine go_ireturn (y := mX6_kindOfWord) (pc := 43) dX6_kindOfWord_43 rfl ?_
          exact K 3 (by rw [if_neg (show ¬ atw f L s.1 "propose" from bI_0 e3 h6), if_neg (show ¬ atw f L s.1 "ask" from bI_0 e14 h17), if_neg (show ¬ atw f L s.1 "rebut" from bI_0 e25 h28), if_pos (show atw f L s.1 "wait" from bI_1 e36 h39)]) (by decide)
      · skip
        refine go_iconst (y := mX6_kindOfWord) (pc := 31) dX6_kindOfWord_31 ?_
        refine go_ireturn (y := mX6_kindOfWord) (pc := 32) dX6_kindOfWord_32 rfl ?_
        exact K 2 (by rw [if_neg (show ¬ atw f L s.1 "propose" from bI_0 e3 h6), if_neg (show ¬ atw f L s.1 "ask" from bI_0 e14 h17), if_pos (show atw f L s.1 "rebut" from bI_1 e25 h28)]) (by decide)
    · skip
      refine go_iconst (y := mX6_kindOfWord) (pc := 20) dX6_kindOfWord_20 ?_
      refine go_ireturn (y := mX6_kindOfWord) (pc := 21) dX6_kindOfWord_21 rfl ?_
      exact K 1 (by rw [if_neg (show ¬ atw f L s.1 "propose" from bI_0 e3 h6), if_pos (show atw f L s.1 "ask" from bI_1 e14 h17)]) (by decide)
  · skip
    refine go_iconst (y := mX6_kindOfWord) (pc := 9) dX6_kindOfWord_9 ?_
    refine go_ireturn (y := mX6_kindOfWord) (pc := 10) dX6_kindOfWord_10 rfl ?_
    exact K 0 (by rw [if_pos (show atw f L s.1 "propose" from bI_1 e3 h6)]) (by decide)
set_option maxRecDepth 8000 in
set_option maxHeartbeats 4000000 in
theorem f_takeSide (ht : okT f L μ) (hr : rok f L s ρ) {Q : Option Value → Mem → Prop} {X : String → Mem → Prop} (K : ∀ ρ', rok f L (sdS f L s) ρ' → (sdV f L s = 1 ∨ sdV f L s = -1) → Q (some (.int (iI (sdV f L s)))) (pr ρ' μ)) : mt 276 5 0 0 mX6_takeSide [.ref 3] Q X (pr ρ μ) := by
  show go 276 5 0 0 mX6_takeSide Q X 0 [.ref 3, .null] [] _
  have J26 : ∀ v e : Int, v = bI (atw f L s.1 "for") → (v = 0 ∨ v = 1) → (e = 0 ∨ e = 1) → (e = 0 ↔ (atw f L s.1 "for" ∨ atw f L s.1 "against")) → go 276 5 0 0 mX6_takeSide Q X 26 [.ref 3, .int (iI v)] [.int (iI e), .ref 3] (pr ρ μ) := by
    intro v e hv hvb he hee
    refine go_callV1 (y := mX6_takeSide) (pc := 26) (y' := mX9_take) (kc2 := 0) (ks2 := 0) dX6_takeSide_26 ml_X6_59 ok_X9_take (show shp 3 = _ from rfl) ⟨_, _, rfl⟩ (by decide) rfl (by decide) (Nat.le_of_ble_eq_true rfl) rfl (f_take (by omega) ht hr (fun ρ26 e26 => ?_))
    refine go_iload_n (y := mX6_takeSide) (pc := 29) dX6_takeSide_29 rfl rfl ?_
    refine go_if_eq (y := mX6_takeSide) (pc := 30) (tgt := 37) dX6_takeSide_30 (by decide) (by omega) (fun h30 => ?_) (fun h30 => ?_)
    · skip
      have g := bI_0 hv h30
      have e9 : rok f L (sdS f L s) ρ26 := by
        unfold sdS
        rcases he with rfl | rfl
        · rw [mus_e (q := (0 : Int) = 0) (iff_of_true (hee.mp rfl) rfl), mus_t rfl]
          rw [mus_t rfl] at e26
          exact e26
        · rw [mus_e (q := (1 : Int) = 0) (iff_of_false (fun w => absurd (hee.mpr w) (by decide)) (by decide))]
          exact e26
      refine go_iconst (y := mX6_takeSide) (pc := 37) dX6_takeSide_37 ?_
      refine go_ireturn (y := mX6_takeSide) (pc := 38) dX6_takeSide_38 rfl ?_
      unfold sdV at K
      rw [if_neg g] at K
      exact K ρ26 e9 (Or.inr rfl)
    · skip
      have g := bI_1 hv h30
      have e9 : rok f L (sdS f L s) ρ26 := by
        unfold sdS
        rcases he with rfl | rfl
        · rw [mus_e (q := (0 : Int) = 0) (iff_of_true (hee.mp rfl) rfl), mus_t rfl]
          rw [mus_t rfl] at e26
          exact e26
        · rw [mus_e (q := (1 : Int) = 0) (iff_of_false (fun w => absurd (hee.mpr w) (by decide)) (by decide))]
          exact e26
      refine go_iconst (y := mX6_takeSide) (pc := 33) dX6_takeSide_33 ?_
      refine go_goto (y := mX6_takeSide) (pc := 34) (tgt := 38) dX6_takeSide_34 (by decide) ?_
      refine go_ireturn (y := mX6_takeSide) (pc := 38) dX6_takeSide_38 rfl ?_
      unfold sdV at K
      rw [if_pos g] at K
      exact K ρ26 e9 (Or.inl rfl)
  refine go_aload_n (y := mX6_takeSide) (pc := 0) dX6_takeSide_0 rfl rfl ?_
  refine go_ldc (y := mX6_takeSide) (pc := 1) (i := 12) dX6_takeSide_1 rfl ?_
  refine go_callV1 (y := mX6_takeSide) (pc := 3) (y' := mX9_isAtWord_) (kc2 := 0) (ks2 := 0) dX6_takeSide_3 ml_X6_71 ok_X9_isAtWord_ (show shp 3 = _ from rfl) ⟨_, _, rfl⟩ (by decide) rfl (by decide) (Nat.le_of_ble_eq_true rfl) rfl (f_isWord (k := 12) rfl ht hr (fun v3 e3 b3 => ?_))
  refine go_istore_n (y := mX6_takeSide) (pc := 6) dX6_takeSide_6 rfl (by decide) ?_
  refine go_aload_n (y := mX6_takeSide) (pc := 7) dX6_takeSide_7 rfl rfl ?_
  refine go_iload_n (y := mX6_takeSide) (pc := 8) dX6_takeSide_8 rfl rfl ?_
  refine go_if_ne (y := mX6_takeSide) (pc := 9) (tgt := 21) dX6_takeSide_9 (by decide) (by omega) (fun h9 => ?_) (fun h9 => ?_)
  · skip
    refine go_iconst (y := mX6_takeSide) (pc := 21) dX6_takeSide_21 ?_
    refine go_goto (y := mX6_takeSide) (pc := 22) (tgt := 26) dX6_takeSide_22 (by decide) ?_
    exact J26 v3 0 e3 b3 (by omega) (iff_of_true rfl (Or.inl (bI_1 e3 h9)))
  · skip
    refine go_aload_n (y := mX6_takeSide) (pc := 12) dX6_takeSide_12 rfl rfl ?_
    refine go_ldc (y := mX6_takeSide) (pc := 13) (i := 13) dX6_takeSide_13 rfl ?_
    refine go_callV1 (y := mX6_takeSide) (pc := 15) (y' := mX9_isAtWord_) (kc2 := 0) (ks2 := 0) dX6_takeSide_15 ml_X6_71 ok_X9_isAtWord_ (show shp 3 = _ from rfl) ⟨_, _, rfl⟩ (by decide) rfl (by decide) (Nat.le_of_ble_eq_true rfl) rfl (f_isWord (k := 13) rfl ht hr (fun v15 e15 b15 => ?_))
    refine go_if_eq (y := mX6_takeSide) (pc := 18) (tgt := 25) dX6_takeSide_18 (by decide) (by omega) (fun h18 => ?_) (fun h18 => ?_)
    · skip
      refine go_iconst (y := mX6_takeSide) (pc := 25) dX6_takeSide_25 ?_
      exact J26 v3 1 e3 b3 (by omega) (iff_of_false (by decide) (fun w => w.elim (bI_0 e3 h9) (bI_0 e15 h18)))
    · skip
      refine go_iconst (y := mX6_takeSide) (pc := 21) dX6_takeSide_21 ?_
      refine go_goto (y := mX6_takeSide) (pc := 22) (tgt := 26) dX6_takeSide_22 (by decide) ?_
      exact J26 v3 0 e3 b3 (by omega) (iff_of_true rfl (Or.inr (bI_1 e15 h18)))
set_option maxRecDepth 8000 in
set_option maxHeartbeats 4000000 in
theorem f_takeRanking (ht : okT f L μ) (hr : rok f L s ρ) {Q : Option Value → Mem → Prop} {X : String → Mem → Prop} (K : ∀ ρ', rok f L (rkS f L s) ρ' → (-1 ≤ rkV f L s ∧ rkV f L s ≤ 3) → Q (some (.int (iI (rkV f L s)))) (pr ρ' μ)) : mt 276 5 0 0 mX6_takeRanking [.ref 3] Q X (pr ρ μ) := by
  show go 276 5 0 0 mX6_takeRanking Q X 0 [.ref 3, .null] [] _
  have J55 : ∀ v : Int, v = rkV f L s → -1 ≤ v ∧ v ≤ 3 → go 276 5 0 0 mX6_takeRanking Q X 55 [.ref 3, .int (iI v)] [] (pr ρ μ) := by
    intro v hv hb
    have J66 : ∀ e : Int, (e = 0 ∨ e = 1) → (e = 0 ↔ v ≠ -1) → go 276 5 0 0 mX6_takeRanking Q X 66 [.ref 3, .int (iI v)] [.int (iI e), .ref 3] (pr ρ μ) := by
      intro e he hee
      refine go_callV1 (y := mX6_takeRanking) (pc := 66) (y' := mX9_take) (kc2 := 0) (ks2 := 0) dX6_takeRanking_66 ml_X6_59 ok_X9_take (show shp 3 = _ from rfl) ⟨_, _, rfl⟩ (by decide) rfl (by decide) (Nat.le_of_ble_eq_true rfl) rfl (f_take (by omega) ht hr (fun ρ66 e66 => ?_))
      refine go_iload_n (y := mX6_takeRanking) (pc := 69) dX6_takeRanking_69 rfl rfl ?_
      refine go_ireturn (y := mX6_takeRanking) (pc := 70) dX6_takeRanking_70 rfl ?_
      have e9 : rok f L (rkS f L s) ρ66 := by
        unfold rkS
        rw [← hv]
        rcases he with rfl | rfl
        · rw [mus_e (q := (0 : Int) = 0) (iff_of_true (hee.mp rfl) rfl), mus_t rfl]
          rw [mus_t rfl] at e66
          exact e66
        · rw [mus_e (q := (1 : Int) = 0) (iff_of_false (fun w => absurd (hee.mpr w) (by decide)) (by decide))]
          exact e66
      rw [hv] at hb ⊢
      exact K ρ66 e9 hb
    refine go_aload_n (y := mX6_takeRanking) (pc := 55) dX6_takeRanking_55 rfl rfl ?_
    refine go_iload_n (y := mX6_takeRanking) (pc := 56) dX6_takeRanking_56 rfl rfl ?_
    refine go_iconst (y := mX6_takeRanking) (pc := 57) dX6_takeRanking_57 ?_
    refine go_icmp_ne (y := mX6_takeRanking) (pc := 58) (tgt := 65) dX6_takeRanking_58 (by decide) (by omega) (by omega) (fun h58 => ?_) (fun h58 => ?_)
    · skip
      refine go_iconst (y := mX6_takeRanking) (pc := 65) dX6_takeRanking_65 ?_
      exact J66 0 (by omega) (iff_of_true rfl h58)
    · skip
      refine go_iconst (y := mX6_takeRanking) (pc := 61) dX6_takeRanking_61 ?_
      refine go_goto (y := mX6_takeRanking) (pc := 62) (tgt := 66) dX6_takeRanking_62 (by decide) ?_
      exact J66 1 (by omega) (iff_of_false (by decide) (fun w => w h58))
  unfold rkV at J55
  refine go_iconst (y := mX6_takeRanking) (pc := 0) dX6_takeRanking_0 ?_
  refine go_istore_n (y := mX6_takeRanking) (pc := 1) dX6_takeRanking_1 rfl (by decide) ?_
  refine go_aload_n (y := mX6_takeRanking) (pc := 2) dX6_takeRanking_2 rfl rfl ?_
  refine go_ldc (y := mX6_takeRanking) (pc := 3) (i := 14) dX6_takeRanking_3 rfl ?_
  refine go_callV1 (y := mX6_takeRanking) (pc := 5) (y' := mX9_isAtWord_) (kc2 := 0) (ks2 := 0) dX6_takeRanking_5 ml_X6_71 ok_X9_isAtWord_ (show shp 3 = _ from rfl) ⟨_, _, rfl⟩ (by decide) rfl (by decide) (Nat.le_of_ble_eq_true rfl) rfl (f_isWord (k := 14) rfl ht hr (fun v5 e5 b5 => ?_))
  refine go_if_eq (y := mX6_takeRanking) (pc := 8) (tgt := 16) dX6_takeRanking_8 (by decide) (by omega) (fun h8 => ?_) (fun h8 => ?_)
  · skip
    skip
    refine go_aload_n (y := mX6_takeRanking) (pc := 16) dX6_takeRanking_16 rfl rfl ?_
    refine go_ldc (y := mX6_takeRanking) (pc := 17) (i := 15) dX6_takeRanking_17 rfl ?_
    refine go_callV1 (y := mX6_takeRanking) (pc := 19) (y' := mX9_isAtWord_) (kc2 := 0) (ks2 := 0) dX6_takeRanking_19 ml_X6_71 ok_X9_isAtWord_ (show shp 3 = _ from rfl) ⟨_, _, rfl⟩ (by decide) rfl (by decide) (Nat.le_of_ble_eq_true rfl) rfl (f_isWord (k := 15) rfl ht hr (fun v19 e19 b19 => ?_))
    refine go_if_eq (y := mX6_takeRanking) (pc := 22) (tgt := 30) dX6_takeRanking_22 (by decide) (by omega) (fun h22 => ?_) (fun h22 => ?_)
    · skip
      skip
      refine go_aload_n (y := mX6_takeRanking) (pc := 30) dX6_takeRanking_30 rfl rfl ?_
      refine go_ldc (y := mX6_takeRanking) (pc := 31) (i := 16) dX6_takeRanking_31 rfl ?_
      refine go_callV1 (y := mX6_takeRanking) (pc := 33) (y' := mX9_isAtWord_) (kc2 := 0) (ks2 := 0) dX6_takeRanking_33 ml_X6_71 ok_X9_isAtWord_ (show shp 3 = _ from rfl) ⟨_, _, rfl⟩ (by decide) rfl (by decide) (Nat.le_of_ble_eq_true rfl) rfl (f_isWord (k := 16) rfl ht hr (fun v33 e33 b33 => ?_))
      refine go_if_eq (y := mX6_takeRanking) (pc := 36) (tgt := 44) dX6_takeRanking_36 (by decide) (by omega) (fun h36 => ?_) (fun h36 => ?_)
      · skip
        skip
        refine go_aload_n (y := mX6_takeRanking) (pc := 44) dX6_takeRanking_44 rfl rfl ?_
        refine go_ldc (y := mX6_takeRanking) (pc := 45) (i := 17) dX6_takeRanking_45 rfl ?_
        refine go_callV1 (y := mX6_takeRanking) (pc := 47) (y' := mX9_isAtWord_) (kc2 := 0) (ks2 := 0) dX6_takeRanking_47 ml_X6_71 ok_X9_isAtWord_ (show shp 3 = _ from rfl) ⟨_, _, rfl⟩ (by decide) rfl (by decide) (Nat.le_of_ble_eq_true rfl) rfl (f_isWord (k := 17) rfl ht hr (fun v47 e47 b47 => ?_))
        refine go_if_eq (y := mX6_takeRanking) (pc := 50) (tgt := 55) dX6_takeRanking_50 (by decide) (by omega) (fun h50 => ?_) (fun h50 => ?_)
        · skip
          exact J55 (-1) (by rw [if_neg (show ¬ atw f L s.1 "arrival" from bI_0 e5 h8), if_neg (show ¬ atw f L s.1 "heaviest" from bI_0 e19 h22), if_neg (show ¬ atw f L s.1 "quietest" from bI_0 e33 h36), if_neg (show ¬ atw f L s.1 "contrast" from bI_0 e47 h50)]) (by decide)
        · skip
          refine go_iconst (y := mX6_takeRanking) (pc := 53) dX6_takeRanking_53 ?_
          refine go_istore_n (y := mX6_takeRanking) (pc := 54) dX6_takeRanking_54 rfl (by decide) ?_
          exact J55 3 (by rw [if_neg (show ¬ atw f L s.1 "arrival" from bI_0 e5 h8), if_neg (show ¬ atw f L s.1 "heaviest" from bI_0 e19 h22), if_neg (show ¬ atw f L s.1 "quietest" from bI_0 e33 h36), if_pos (show atw f L s.1 "contrast" from bI_1 e47 h50)]) (by decide)
      · skip
        refine go_iconst (y := mX6_takeRanking) (pc := 39) dX6_takeRanking_39 ?_
        refine go_istore_n (y := mX6_takeRanking) (pc := 40) dX6_takeRanking_40 rfl (by decide) ?_
        refine go_goto (y := mX6_takeRanking) (pc := 41) (tgt := 55) dX6_takeRanking_41 (by decide) ?_
        exact J55 2 (by rw [if_neg (show ¬ atw f L s.1 "arrival" from bI_0 e5 h8), if_neg (show ¬ atw f L s.1 "heaviest" from bI_0 e19 h22), if_pos (show atw f L s.1 "quietest" from bI_1 e33 h36)]) (by decide)
    · skip
      refine go_iconst (y := mX6_takeRanking) (pc := 25) dX6_takeRanking_25 ?_
      refine go_istore_n (y := mX6_takeRanking) (pc := 26) dX6_takeRanking_26 rfl (by decide) ?_
      refine go_goto (y := mX6_takeRanking) (pc := 27) (tgt := 55) dX6_takeRanking_27 (by decide) ?_
      exact J55 1 (by rw [if_neg (show ¬ atw f L s.1 "arrival" from bI_0 e5 h8), if_pos (show atw f L s.1 "heaviest" from bI_1 e19 h22)]) (by decide)
  · skip
    refine go_iconst (y := mX6_takeRanking) (pc := 11) dX6_takeRanking_11 ?_
    refine go_istore_n (y := mX6_takeRanking) (pc := 12) dX6_takeRanking_12 rfl (by decide) ?_
    refine go_goto (y := mX6_takeRanking) (pc := 13) (tgt := 55) dX6_takeRanking_13 (by decide) ?_
    exact J55 0 (by rw [if_pos (show atw f L s.1 "arrival" from bI_1 e5 h8)]) (by decide)
theorem opr_e {k : Int} {i : Nat} {P : Sta × Mem → Prop} {x : Sta × Mem} (h : opr f L k i s μ = x) (K : P (opr f L k i s μ)) : P x := h ▸ K
set_option maxRecDepth 8000 in
set_option maxHeartbeats 4000000 in
theorem f_readOperands {k : Int} {i : Nat} (hi : i < 30) (hk : μ 5 i = k) (hkb : 0 ≤ k ∧ k ≤ 8) (ht : okT f L μ) (hr : rok f L s ρ) (hn : 0 ≤ μ 10 7 ∧ μ 10 7 ≤ 12) {Q : Option Value → Mem → Prop} {X : String → Mem → Prop} (K : ∀ ρ', rok f L (opr f L k i s μ).1 ρ' → Q none (pr ρ' (opr f L k i s μ).2)) : mt 276 6 0 0 mX6_readOperands [.ref 4, .ref 3, .ref 10, .int (iI (i : Nat))] Q X (pr ρ μ) := by
  show go 276 6 0 0 mX6_readOperands Q X 0 [.ref 4, .ref 3, .ref 10, .int (iI (i : Nat))] [] _
  have hk9 : k = 0 ∨ k = 1 ∨ k = 2 ∨ k = 3 ∨ k = 4 ∨ k = 5 ∨ k = 6 ∨ k = 7 ∨ k = 8 := by omega
  unfold opr at K
  rcases hk9 with rfl | rfl | rfl | rfl | rfl | rfl | rfl | rfl | rfl
  · skip
    rw [if_pos rfl] at K
    refine go_aload_n (y := mX6_readOperands) (pc := 0) dX6_readOperands_0 rfl rfl ?_
    refine go_getR (y := mX6_readOperands) (pc := 1) dX6_readOperands_1 fl_X6_9 rfl rfl (by decide) ?_
    refine go_iload_n (y := mX6_readOperands) (pc := 4) dX6_readOperands_4 rfl rfl ?_
    refine go_tial (y := mX6_readOperands) (pc := 5) (k := i) dX6_readOperands_5 rfl (by decide) (by decide) rfl (by omega) (by decide) (fun r5 => ?_)
    refine go_top (b := 0) (hk) (fun t5 => ?_)
    refine go_tbIn (y := mX6_readOperands) (pc := 6) (off := 50) (tgt := 56) dX6_readOperands_6 (by decide) (by decide) (by decide) rfl (by decide) ?_
    refine go_aload_n (y := mX6_readOperands) (pc := 56) dX6_readOperands_56 rfl rfl ?_
    refine go_getR (y := mX6_readOperands) (pc := 57) dX6_readOperands_57 fl_X6_15 rfl rfl (by decide) ?_
    refine go_iload_n (y := mX6_readOperands) (pc := 60) dX6_readOperands_60 rfl rfl ?_
    refine go_aload_n (y := mX6_readOperands) (pc := 61) dX6_readOperands_61 rfl rfl ?_
    refine go_aload_n (y := mX6_readOperands) (pc := 62) dX6_readOperands_62 rfl rfl ?_
    refine go_callV1 (y := mX6_readOperands) (pc := 63) (y' := mX7_takeKnownName) (kc2 := 0) (ks2 := 0) dX6_readOperands_63 ml_X6_90 ok_X7_takeKnownName (show shp 10 = _ from rfl) ⟨_, _, rfl⟩ (by decide) rfl (by decide) (Nat.le_of_ble_eq_true rfl) rfl (f_takeKnownName ht hr hn.1 hn.2 (fun ρ63 v63 x63 b63 e63 => ?_))
    have y63 : v63 = nmF f L s μ := x63; rw [y63] at e63 b63 ⊢; have e63 : rok f L (nmG f L s μ) ρ63 := e63
    refine go_tias (y := mX6_readOperands) (pc := 66) (k := i) dX6_readOperands_66 rfl (by decide) (by decide) rfl (by omega) (by decide) (by omega) ?_
    refine go_aload_n (y := mX6_readOperands) (pc := 67) dX6_readOperands_67 rfl rfl ?_
    refine go_getR (y := mX6_readOperands) (pc := 68) dX6_readOperands_68 fl_X6_21 rfl rfl (by decide) ?_
    refine go_iload_n (y := mX6_readOperands) (pc := 71) dX6_readOperands_71 rfl rfl ?_
    refine go_aload_n (y := mX6_readOperands) (pc := 72) dX6_readOperands_72 rfl rfl ?_
    refine go_iconst (y := mX6_readOperands) (pc := 73) dX6_readOperands_73 ?_
    refine go_bipush (y := mX6_readOperands) (pc := 74) dX6_readOperands_74 (by decide) ?_
    refine go_callV2 (y := mX6_readOperands) (pc := 76) (y' := mX9_takeNumber) (kc2 := 0) (ks2 := 0) dX6_readOperands_76 ml_X6_95 ok_X9_takeNumber (show shp 3 = _ from rfl) ⟨_, _, rfl⟩ (by decide) ⟨rfl, rfl⟩ (by decide) (Nat.le_of_ble_eq_true rfl) rfl (f_takeNumber (by omega) (by omega) (by (repeat' refine okT_wr ?_ (by decide) (by decide)); exact ht) e63 (fun ρ76 e76 b76 => ?_))
    refine go_tias (y := mX6_readOperands) (pc := 79) (k := i) dX6_readOperands_79 rfl (by decide) (by decide) rfl (by omega) (by decide) (by omega) ?_
    refine go_goto (y := mX6_readOperands) (pc := 80) (tgt := 218) dX6_readOperands_80 (by decide) ?_
    refine go_return (y := mX6_readOperands) (pc := 218) dX6_readOperands_218 rfl ?_
    exact K _ e76
  · skip
    rw [if_neg (show ¬ (1 : Int) = 0 by decide), if_pos rfl] at K
    refine go_aload_n (y := mX6_readOperands) (pc := 0) dX6_readOperands_0 rfl rfl ?_
    refine go_getR (y := mX6_readOperands) (pc := 1) dX6_readOperands_1 fl_X6_9 rfl rfl (by decide) ?_
    refine go_iload_n (y := mX6_readOperands) (pc := 4) dX6_readOperands_4 rfl rfl ?_
    refine go_tial (y := mX6_readOperands) (pc := 5) (k := i) dX6_readOperands_5 rfl (by decide) (by decide) rfl (by omega) (by decide) (fun r5 => ?_)
    refine go_top (b := 1) (hk) (fun t5 => ?_)
    refine go_tbIn (y := mX6_readOperands) (pc := 6) (off := 77) (tgt := 83) dX6_readOperands_6 (by decide) (by decide) (by decide) rfl (by decide) ?_
    refine go_aload_n (y := mX6_readOperands) (pc := 83) dX6_readOperands_83 rfl rfl ?_
    refine go_getR (y := mX6_readOperands) (pc := 84) dX6_readOperands_84 fl_X6_15 rfl rfl (by decide) ?_
    refine go_iload_n (y := mX6_readOperands) (pc := 87) dX6_readOperands_87 rfl rfl ?_
    refine go_aload_n (y := mX6_readOperands) (pc := 88) dX6_readOperands_88 rfl rfl ?_
    refine go_aload_n (y := mX6_readOperands) (pc := 89) dX6_readOperands_89 rfl rfl ?_
    refine go_callV1 (y := mX6_readOperands) (pc := 90) (y' := mX7_takeKnownName) (kc2 := 0) (ks2 := 0) dX6_readOperands_90 ml_X6_90 ok_X7_takeKnownName (show shp 10 = _ from rfl) ⟨_, _, rfl⟩ (by decide) rfl (by decide) (Nat.le_of_ble_eq_true rfl) rfl (f_takeKnownName ht hr hn.1 hn.2 (fun ρ90 v90 x90 b90 e90 => ?_))
    have y90 : v90 = nmF f L s μ := x90; rw [y90] at e90 b90 ⊢; have e90 : rok f L (nmG f L s μ) ρ90 := e90
    refine go_tias (y := mX6_readOperands) (pc := 93) (k := i) dX6_readOperands_93 rfl (by decide) (by decide) rfl (by omega) (by decide) (by omega) ?_
    refine go_aload_n (y := mX6_readOperands) (pc := 94) dX6_readOperands_94 rfl rfl ?_
    refine go_getR (y := mX6_readOperands) (pc := 95) dX6_readOperands_95 fl_X6_18 rfl rfl (by decide) ?_
    refine go_iload_n (y := mX6_readOperands) (pc := 98) dX6_readOperands_98 rfl rfl ?_
    refine go_aload_n (y := mX6_readOperands) (pc := 99) dX6_readOperands_99 rfl rfl ?_
    refine go_callS1 (y := mX6_readOperands) (pc := 100) (y' := mX6_takeSide) (kc2 := 0) (ks2 := 0) dX6_readOperands_100 ml_X6_99 ok_X6_takeSide rfl (by decide) (Nat.le_of_ble_eq_true rfl) rfl (f_takeSide (by (repeat' refine okT_wr ?_ (by decide) (by decide)); exact ht) e90 (fun ρ100 e100 b100 => ?_))
    refine go_tias (y := mX6_readOperands) (pc := 103) (k := i) dX6_readOperands_103 rfl (by decide) (by decide) rfl (by omega) (by decide) (by omega) ?_
    refine go_aload_n (y := mX6_readOperands) (pc := 104) dX6_readOperands_104 rfl rfl ?_
    refine go_getR (y := mX6_readOperands) (pc := 105) dX6_readOperands_105 fl_X6_21 rfl rfl (by decide) ?_
    refine go_iload_n (y := mX6_readOperands) (pc := 108) dX6_readOperands_108 rfl rfl ?_
    refine go_aload_n (y := mX6_readOperands) (pc := 109) dX6_readOperands_109 rfl rfl ?_
    refine go_iconst (y := mX6_readOperands) (pc := 110) dX6_readOperands_110 ?_
    refine go_bipush (y := mX6_readOperands) (pc := 111) dX6_readOperands_111 (by decide) ?_
    refine go_callV2 (y := mX6_readOperands) (pc := 113) (y' := mX9_takeNumber) (kc2 := 0) (ks2 := 0) dX6_readOperands_113 ml_X6_95 ok_X9_takeNumber (show shp 3 = _ from rfl) ⟨_, _, rfl⟩ (by decide) ⟨rfl, rfl⟩ (by decide) (Nat.le_of_ble_eq_true rfl) rfl (f_takeNumber (by omega) (by omega) (by (repeat' refine okT_wr ?_ (by decide) (by decide)); exact ht) e100 (fun ρ113 e113 b113 => ?_))
    refine go_tias (y := mX6_readOperands) (pc := 116) (k := i) dX6_readOperands_116 rfl (by decide) (by decide) rfl (by omega) (by decide) (by omega) ?_
    refine go_goto (y := mX6_readOperands) (pc := 117) (tgt := 218) dX6_readOperands_117 (by decide) ?_
    refine go_return (y := mX6_readOperands) (pc := 218) dX6_readOperands_218 rfl ?_
    exact K _ e113
  · skip
    rw [if_neg (show ¬ (2 : Int) = 0 by decide), if_neg (show ¬ (2 : Int) = 1 by decide), if_pos rfl] at K
    refine go_aload_n (y := mX6_readOperands) (pc := 0) dX6_readOperands_0 rfl rfl ?_
    refine go_getR (y := mX6_readOperands) (pc := 1) dX6_readOperands_1 fl_X6_9 rfl rfl (by decide) ?_
    refine go_iload_n (y := mX6_readOperands) (pc := 4) dX6_readOperands_4 rfl rfl ?_
    refine go_tial (y := mX6_readOperands) (pc := 5) (k := i) dX6_readOperands_5 rfl (by decide) (by decide) rfl (by omega) (by decide) (fun r5 => ?_)
    refine go_top (b := 2) (hk) (fun t5 => ?_)
    refine go_tbIn (y := mX6_readOperands) (pc := 6) (off := 114) (tgt := 120) dX6_readOperands_6 (by decide) (by decide) (by decide) rfl (by decide) ?_
    refine go_aload_n (y := mX6_readOperands) (pc := 120) dX6_readOperands_120 rfl rfl ?_
    refine go_getR (y := mX6_readOperands) (pc := 121) dX6_readOperands_121 fl_X6_15 rfl rfl (by decide) ?_
    refine go_iload_n (y := mX6_readOperands) (pc := 124) dX6_readOperands_124 rfl rfl ?_
    refine go_aload_n (y := mX6_readOperands) (pc := 125) dX6_readOperands_125 rfl rfl ?_
    refine go_aload_n (y := mX6_readOperands) (pc := 126) dX6_readOperands_126 rfl rfl ?_
    refine go_callV1 (y := mX6_readOperands) (pc := 127) (y' := mX7_takeKnownName) (kc2 := 0) (ks2 := 0) dX6_readOperands_127 ml_X6_90 ok_X7_takeKnownName (show shp 10 = _ from rfl) ⟨_, _, rfl⟩ (by decide) rfl (by decide) (Nat.le_of_ble_eq_true rfl) rfl (f_takeKnownName ht hr hn.1 hn.2 (fun ρ127 v127 x127 b127 e127 => ?_))
    have y127 : v127 = nmF f L s μ := x127; rw [y127] at e127 b127 ⊢; have e127 : rok f L (nmG f L s μ) ρ127 := e127
    refine go_tias (y := mX6_readOperands) (pc := 130) (k := i) dX6_readOperands_130 rfl (by decide) (by decide) rfl (by omega) (by decide) (by omega) ?_
    refine go_aload_n (y := mX6_readOperands) (pc := 131) dX6_readOperands_131 rfl rfl ?_
    refine go_getR (y := mX6_readOperands) (pc := 132) dX6_readOperands_132 fl_X6_21 rfl rfl (by decide) ?_
    refine go_iload_n (y := mX6_readOperands) (pc := 135) dX6_readOperands_135 rfl rfl ?_
    refine go_aload_n (y := mX6_readOperands) (pc := 136) dX6_readOperands_136 rfl rfl ?_
    refine go_iconst (y := mX6_readOperands) (pc := 137) dX6_readOperands_137 ?_
    refine go_iconst (y := mX6_readOperands) (pc := 138) dX6_readOperands_138 ?_
    refine go_callV2 (y := mX6_readOperands) (pc := 139) (y' := mX9_takeNumber) (kc2 := 0) (ks2 := 0) dX6_readOperands_139 ml_X6_95 ok_X9_takeNumber (show shp 3 = _ from rfl) ⟨_, _, rfl⟩ (by decide) ⟨rfl, rfl⟩ (by decide) (Nat.le_of_ble_eq_true rfl) rfl (f_takeNumber (by omega) (by omega) (by (repeat' refine okT_wr ?_ (by decide) (by decide)); exact ht) e127 (fun ρ139 e139 b139 => ?_))
    refine go_tias (y := mX6_readOperands) (pc := 142) (k := i) dX6_readOperands_142 rfl (by decide) (by decide) rfl (by omega) (by decide) (by omega) ?_
    refine go_goto (y := mX6_readOperands) (pc := 143) (tgt := 218) dX6_readOperands_143 (by decide) ?_
    refine go_return (y := mX6_readOperands) (pc := 218) dX6_readOperands_218 rfl ?_
    exact K _ e139
  · skip
    rw [if_neg (show ¬ (3 : Int) = 0 by decide), if_neg (show ¬ (3 : Int) = 1 by decide), if_neg (show ¬ (3 : Int) = 2 by decide), if_pos rfl] at K
    refine go_aload_n (y := mX6_readOperands) (pc := 0) dX6_readOperands_0 rfl rfl ?_
    refine go_getR (y := mX6_readOperands) (pc := 1) dX6_readOperands_1 fl_X6_9 rfl rfl (by decide) ?_
    refine go_iload_n (y := mX6_readOperands) (pc := 4) dX6_readOperands_4 rfl rfl ?_
    refine go_tial (y := mX6_readOperands) (pc := 5) (k := i) dX6_readOperands_5 rfl (by decide) (by decide) rfl (by omega) (by decide) (fun r5 => ?_)
    refine go_top (b := 3) (hk) (fun t5 => ?_)
    refine go_tbIn (y := mX6_readOperands) (pc := 6) (off := 140) (tgt := 146) dX6_readOperands_6 (by decide) (by decide) (by decide) rfl (by decide) ?_
    refine go_aload_n (y := mX6_readOperands) (pc := 146) dX6_readOperands_146 rfl rfl ?_
    refine go_getR (y := mX6_readOperands) (pc := 147) dX6_readOperands_147 fl_X6_21 rfl rfl (by decide) ?_
    refine go_iload_n (y := mX6_readOperands) (pc := 150) dX6_readOperands_150 rfl rfl ?_
    refine go_aload_n (y := mX6_readOperands) (pc := 151) dX6_readOperands_151 rfl rfl ?_
    refine go_iconst (y := mX6_readOperands) (pc := 152) dX6_readOperands_152 ?_
    refine go_bipush (y := mX6_readOperands) (pc := 153) dX6_readOperands_153 (by decide) ?_
    refine go_callV2 (y := mX6_readOperands) (pc := 155) (y' := mX9_takeNumber) (kc2 := 0) (ks2 := 0) dX6_readOperands_155 ml_X6_95 ok_X9_takeNumber (show shp 3 = _ from rfl) ⟨_, _, rfl⟩ (by decide) ⟨rfl, rfl⟩ (by decide) (Nat.le_of_ble_eq_true rfl) rfl (f_takeNumber (by omega) (by omega) (by (repeat' refine okT_wr ?_ (by decide) (by decide)); exact ht) hr (fun ρ155 e155 b155 => ?_))
    refine go_tias (y := mX6_readOperands) (pc := 158) (k := i) dX6_readOperands_158 rfl (by decide) (by decide) rfl (by omega) (by decide) (by omega) ?_
    refine go_goto (y := mX6_readOperands) (pc := 159) (tgt := 218) dX6_readOperands_159 (by decide) ?_
    refine go_return (y := mX6_readOperands) (pc := 218) dX6_readOperands_218 rfl ?_
    exact K _ e155
  · skip
    rw [if_neg (show ¬ (4 : Int) = 0 by decide), if_neg (show ¬ (4 : Int) = 1 by decide), if_neg (show ¬ (4 : Int) = 2 by decide), if_neg (show ¬ (4 : Int) = 3 by decide), if_neg (show ¬ (4 : Int) = 6 by decide), if_neg (show ¬ (4 : Int) = 7 by decide), if_neg (show ¬ (4 : Int) = 8 by decide)] at K
    refine go_aload_n (y := mX6_readOperands) (pc := 0) dX6_readOperands_0 rfl rfl ?_
    refine go_getR (y := mX6_readOperands) (pc := 1) dX6_readOperands_1 fl_X6_9 rfl rfl (by decide) ?_
    refine go_iload_n (y := mX6_readOperands) (pc := 4) dX6_readOperands_4 rfl rfl ?_
    refine go_tial (y := mX6_readOperands) (pc := 5) (k := i) dX6_readOperands_5 rfl (by decide) (by decide) rfl (by omega) (by decide) (fun r5 => ?_)
    refine go_top (b := 4) (hk) (fun t5 => ?_)
    refine go_tbIn (y := mX6_readOperands) (pc := 6) (off := 199) (tgt := 205) dX6_readOperands_6 (by decide) (by decide) (by decide) rfl (by decide) ?_
    refine go_aload_n (y := mX6_readOperands) (pc := 205) dX6_readOperands_205 rfl rfl ?_
    refine go_getR (y := mX6_readOperands) (pc := 206) dX6_readOperands_206 fl_X6_21 rfl rfl (by decide) ?_
    refine go_iload_n (y := mX6_readOperands) (pc := 209) dX6_readOperands_209 rfl rfl ?_
    refine go_aload_n (y := mX6_readOperands) (pc := 210) dX6_readOperands_210 rfl rfl ?_
    refine go_iconst (y := mX6_readOperands) (pc := 211) dX6_readOperands_211 ?_
    refine go_bipush (y := mX6_readOperands) (pc := 212) dX6_readOperands_212 (by decide) ?_
    refine go_callV2 (y := mX6_readOperands) (pc := 214) (y' := mX9_takeNumber) (kc2 := 0) (ks2 := 0) dX6_readOperands_214 ml_X6_95 ok_X9_takeNumber (show shp 3 = _ from rfl) ⟨_, _, rfl⟩ (by decide) ⟨rfl, rfl⟩ (by decide) (Nat.le_of_ble_eq_true rfl) rfl (f_takeNumber (by omega) (by omega) (by (repeat' refine okT_wr ?_ (by decide) (by decide)); exact ht) hr (fun ρ214 e214 b214 => ?_))
    refine go_tias (y := mX6_readOperands) (pc := 217) (k := i) dX6_readOperands_217 rfl (by decide) (by decide) rfl (by omega) (by decide) (by omega) ?_
    refine go_return (y := mX6_readOperands) (pc := 218) dX6_readOperands_218 rfl ?_
    exact K _ e214
  · skip
    rw [if_neg (show ¬ (5 : Int) = 0 by decide), if_neg (show ¬ (5 : Int) = 1 by decide), if_neg (show ¬ (5 : Int) = 2 by decide), if_neg (show ¬ (5 : Int) = 3 by decide), if_neg (show ¬ (5 : Int) = 6 by decide), if_neg (show ¬ (5 : Int) = 7 by decide), if_neg (show ¬ (5 : Int) = 8 by decide)] at K
    refine go_aload_n (y := mX6_readOperands) (pc := 0) dX6_readOperands_0 rfl rfl ?_
    refine go_getR (y := mX6_readOperands) (pc := 1) dX6_readOperands_1 fl_X6_9 rfl rfl (by decide) ?_
    refine go_iload_n (y := mX6_readOperands) (pc := 4) dX6_readOperands_4 rfl rfl ?_
    refine go_tial (y := mX6_readOperands) (pc := 5) (k := i) dX6_readOperands_5 rfl (by decide) (by decide) rfl (by omega) (by decide) (fun r5 => ?_)
    refine go_top (b := 5) (hk) (fun t5 => ?_)
    refine go_tbIn (y := mX6_readOperands) (pc := 6) (off := 199) (tgt := 205) dX6_readOperands_6 (by decide) (by decide) (by decide) rfl (by decide) ?_
    refine go_aload_n (y := mX6_readOperands) (pc := 205) dX6_readOperands_205 rfl rfl ?_
    refine go_getR (y := mX6_readOperands) (pc := 206) dX6_readOperands_206 fl_X6_21 rfl rfl (by decide) ?_
    refine go_iload_n (y := mX6_readOperands) (pc := 209) dX6_readOperands_209 rfl rfl ?_
    refine go_aload_n (y := mX6_readOperands) (pc := 210) dX6_readOperands_210 rfl rfl ?_
    refine go_iconst (y := mX6_readOperands) (pc := 211) dX6_readOperands_211 ?_
    refine go_bipush (y := mX6_readOperands) (pc := 212) dX6_readOperands_212 (by decide) ?_
    refine go_callV2 (y := mX6_readOperands) (pc := 214) (y' := mX9_takeNumber) (kc2 := 0) (ks2 := 0) dX6_readOperands_214 ml_X6_95 ok_X9_takeNumber (show shp 3 = _ from rfl) ⟨_, _, rfl⟩ (by decide) ⟨rfl, rfl⟩ (by decide) (Nat.le_of_ble_eq_true rfl) rfl (f_takeNumber (by omega) (by omega) (by (repeat' refine okT_wr ?_ (by decide) (by decide)); exact ht) hr (fun ρ214 e214 b214 => ?_))
    refine go_tias (y := mX6_readOperands) (pc := 217) (k := i) dX6_readOperands_217 rfl (by decide) (by decide) rfl (by omega) (by decide) (by omega) ?_
    refine go_return (y := mX6_readOperands) (pc := 218) dX6_readOperands_218 rfl ?_
    exact K _ e214
  · skip
    rw [if_neg (show ¬ (6 : Int) = 0 by decide), if_neg (show ¬ (6 : Int) = 1 by decide), if_neg (show ¬ (6 : Int) = 2 by decide), if_neg (show ¬ (6 : Int) = 3 by decide), if_pos rfl] at K
    refine go_aload_n (y := mX6_readOperands) (pc := 0) dX6_readOperands_0 rfl rfl ?_
    refine go_getR (y := mX6_readOperands) (pc := 1) dX6_readOperands_1 fl_X6_9 rfl rfl (by decide) ?_
    refine go_iload_n (y := mX6_readOperands) (pc := 4) dX6_readOperands_4 rfl rfl ?_
    refine go_tial (y := mX6_readOperands) (pc := 5) (k := i) dX6_readOperands_5 rfl (by decide) (by decide) rfl (by omega) (by decide) (fun r5 => ?_)
    refine go_top (b := 6) (hk) (fun t5 => ?_)
    refine go_tbIn (y := mX6_readOperands) (pc := 6) (off := 156) (tgt := 162) dX6_readOperands_6 (by decide) (by decide) (by decide) rfl (by decide) ?_
    refine go_aload_n (y := mX6_readOperands) (pc := 162) dX6_readOperands_162 rfl rfl ?_
    refine go_getR (y := mX6_readOperands) (pc := 163) dX6_readOperands_163 fl_X6_15 rfl rfl (by decide) ?_
    refine go_iload_n (y := mX6_readOperands) (pc := 166) dX6_readOperands_166 rfl rfl ?_
    refine go_aload_n (y := mX6_readOperands) (pc := 167) dX6_readOperands_167 rfl rfl ?_
    refine go_aload_n (y := mX6_readOperands) (pc := 168) dX6_readOperands_168 rfl rfl ?_
    refine go_callV1 (y := mX6_readOperands) (pc := 169) (y' := mX7_takeKnownName) (kc2 := 0) (ks2 := 0) dX6_readOperands_169 ml_X6_90 ok_X7_takeKnownName (show shp 10 = _ from rfl) ⟨_, _, rfl⟩ (by decide) rfl (by decide) (Nat.le_of_ble_eq_true rfl) rfl (f_takeKnownName ht hr hn.1 hn.2 (fun ρ169 v169 x169 b169 e169 => ?_))
    have y169 : v169 = nmF f L s μ := x169; rw [y169] at e169 b169 ⊢; have e169 : rok f L (nmG f L s μ) ρ169 := e169
    refine go_tias (y := mX6_readOperands) (pc := 172) (k := i) dX6_readOperands_172 rfl (by decide) (by decide) rfl (by omega) (by decide) (by omega) ?_
    refine go_goto (y := mX6_readOperands) (pc := 173) (tgt := 218) dX6_readOperands_173 (by decide) ?_
    refine go_return (y := mX6_readOperands) (pc := 218) dX6_readOperands_218 rfl ?_
    exact K _ e169
  · skip
    rw [if_neg (show ¬ (7 : Int) = 0 by decide), if_neg (show ¬ (7 : Int) = 1 by decide), if_neg (show ¬ (7 : Int) = 2 by decide), if_neg (show ¬ (7 : Int) = 3 by decide), if_neg (show ¬ (7 : Int) = 6 by decide), if_pos rfl] at K
    refine go_aload_n (y := mX6_readOperands) (pc := 0) dX6_readOperands_0 rfl rfl ?_
    refine go_getR (y := mX6_readOperands) (pc := 1) dX6_readOperands_1 fl_X6_9 rfl rfl (by decide) ?_
    refine go_iload_n (y := mX6_readOperands) (pc := 4) dX6_readOperands_4 rfl rfl ?_
    refine go_tial (y := mX6_readOperands) (pc := 5) (k := i) dX6_readOperands_5 rfl (by decide) (by decide) rfl (by omega) (by decide) (fun r5 => ?_)
    refine go_top (b := 7) (hk) (fun t5 => ?_)
    refine go_tbIn (y := mX6_readOperands) (pc := 6) (off := 170) (tgt := 176) dX6_readOperands_6 (by decide) (by decide) (by decide) rfl (by decide) ?_
    refine go_aload_n (y := mX6_readOperands) (pc := 176) dX6_readOperands_176 rfl rfl ?_
    refine go_getR (y := mX6_readOperands) (pc := 177) dX6_readOperands_177 fl_X6_21 rfl rfl (by decide) ?_
    refine go_iload_n (y := mX6_readOperands) (pc := 180) dX6_readOperands_180 rfl rfl ?_
    refine go_aload_n (y := mX6_readOperands) (pc := 181) dX6_readOperands_181 rfl rfl ?_
    refine go_callS1 (y := mX6_readOperands) (pc := 182) (y' := mX6_takeRanking) (kc2 := 0) (ks2 := 0) dX6_readOperands_182 ml_X6_102 ok_X6_takeRanking rfl (by decide) (Nat.le_of_ble_eq_true rfl) rfl (f_takeRanking (by (repeat' refine okT_wr ?_ (by decide) (by decide)); exact ht) hr (fun ρ182 e182 b182 => ?_))
    refine go_tias (y := mX6_readOperands) (pc := 185) (k := i) dX6_readOperands_185 rfl (by decide) (by decide) rfl (by omega) (by decide) (by omega) ?_
    refine go_goto (y := mX6_readOperands) (pc := 186) (tgt := 218) dX6_readOperands_186 (by decide) ?_
    refine go_return (y := mX6_readOperands) (pc := 218) dX6_readOperands_218 rfl ?_
    exact K _ e182
  · skip
    rw [if_neg (show ¬ (8 : Int) = 0 by decide), if_neg (show ¬ (8 : Int) = 1 by decide), if_neg (show ¬ (8 : Int) = 2 by decide), if_neg (show ¬ (8 : Int) = 3 by decide), if_neg (show ¬ (8 : Int) = 6 by decide), if_neg (show ¬ (8 : Int) = 7 by decide), if_pos rfl] at K
    refine go_aload_n (y := mX6_readOperands) (pc := 0) dX6_readOperands_0 rfl rfl ?_
    refine go_getR (y := mX6_readOperands) (pc := 1) dX6_readOperands_1 fl_X6_9 rfl rfl (by decide) ?_
    refine go_iload_n (y := mX6_readOperands) (pc := 4) dX6_readOperands_4 rfl rfl ?_
    refine go_tial (y := mX6_readOperands) (pc := 5) (k := i) dX6_readOperands_5 rfl (by decide) (by decide) rfl (by omega) (by decide) (fun r5 => ?_)
    refine go_top (b := 8) (hk) (fun t5 => ?_)
    refine go_tbIn (y := mX6_readOperands) (pc := 6) (off := 183) (tgt := 189) dX6_readOperands_6 (by decide) (by decide) (by decide) rfl (by decide) ?_
    refine go_aload_n (y := mX6_readOperands) (pc := 189) dX6_readOperands_189 rfl rfl ?_
    refine go_getR (y := mX6_readOperands) (pc := 190) dX6_readOperands_190 fl_X6_21 rfl rfl (by decide) ?_
    refine go_iload_n (y := mX6_readOperands) (pc := 193) dX6_readOperands_193 rfl rfl ?_
    refine go_aload_n (y := mX6_readOperands) (pc := 194) dX6_readOperands_194 rfl rfl ?_
    refine go_iconst (y := mX6_readOperands) (pc := 195) dX6_readOperands_195 ?_
    refine go_bipush (y := mX6_readOperands) (pc := 196) dX6_readOperands_196 (by decide) ?_
    refine go_callV2 (y := mX6_readOperands) (pc := 198) (y' := mX9_takeNumber) (kc2 := 0) (ks2 := 0) dX6_readOperands_198 ml_X6_95 ok_X9_takeNumber (show shp 3 = _ from rfl) ⟨_, _, rfl⟩ (by decide) ⟨rfl, rfl⟩ (by decide) (Nat.le_of_ble_eq_true rfl) rfl (f_takeNumber (by omega) (by omega) (by (repeat' refine okT_wr ?_ (by decide) (by decide)); exact ht) hr (fun ρ198 e198 b198 => ?_))
    refine go_tias (y := mX6_readOperands) (pc := 201) (k := i) dX6_readOperands_201 rfl (by decide) (by decide) rfl (by omega) (by decide) (by omega) ?_
    refine go_goto (y := mX6_readOperands) (pc := 202) (tgt := 218) dX6_readOperands_202 (by decide) ?_
    refine go_return (y := mX6_readOperands) (pc := 218) dX6_readOperands_218 rfl ?_
    exact K _ e198
end FScript
