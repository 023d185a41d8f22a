/-! CHAMBER: who turns a vote; contradictions -/
theorem ltk_b (S s : Mem) (q : Nat) : ∀ k : Nat, -1 ≤ (ltk S s q k).1 ∧ (ltk S s q k).1 < k
  | 0 => by simp [ltk]
  | k + 1 => by
    have h := ltk_b S s q k
    rw [ltk]
    split
    · show -1 ≤ (k : Int) ∧ (k : Int) < _
      omega
    · omega
theorem bne_pos {a b : Int} {x y : Int} (hx : x = bI (0 < a)) (hy : y = bI (0 < b)) : (x = y ↔ ¬ (decide (0 < a) != decide (0 < b)) = true) := by
  subst hx hy
  unfold bI
  by_cases h1 : 0 < a <;> by_cases h2 : 0 < b <;> simp [h1, h2]
set_option maxRecDepth 8000 in
set_option maxHeartbeats 4000000 in
theorem c_lightestTurner {c : Nat} (hc : is_ch c) {σ μ : Mem} {q : Nat} (hq : q < 16) (hS : wfS (su μ)) {Q : Option Value → Mem → Prop} {X : String → Mem → Prop} (K : ∀ v, v = (ltk (su μ) σ q (su μ 0 7).toNat).1 → -1 ≤ v ∧ v < 12 → Q (some (.int (iI v))) (put c σ μ)) : mt 276 4 0 0 mX1_lightestTurner [.ref c, .int (iI (q : Nat))] Q X (put c σ μ) := by
  show go 276 4 0 0 mX1_lightestTurner Q X 0 [.ref c, .int (iI (q : Nat)), .null, .null, .null, .null, .null, .null, .null, .null] [] _
  have n1 : 1 ≤ su μ 0 7 := hS.2.2.2.2.2.2.2.2.2.2.2.2.2.2.1
  have n2 : su μ 0 7 ≤ 12 := hS.2.2.2.2.2.2.2.2.2.2.2.2.2.2.2.1
  have hmem := hS.2.2.2.2.2.2.2.2.2.2.2.2.2.2.2.2
  have loop : ∀ (n k : Nat) (u6 u7 u8 u9 : Value) (g : Int), g = mgn (su μ) σ q → (-108 ≤ g ∧ g ≤ 108) → (k : Int) + n = su μ 0 7 → (0 ≤ (ltk (su μ) σ q k).2 ∧ (ltk (su μ) σ q k).2 ≤ 9) → go 276 4 0 0 mX1_lightestTurner Q X 14 [.ref c, .int (iI (q : Nat)), .int (iI g), .int (iI ((ltk (su μ) σ q k).1)), .int (iI ((ltk (su μ) σ q k).2)), .int (iI (k : Nat)), u6, u7, u8, u9] [] (put c σ μ) := by
    intro n
    induction n using Nat.strongRecOn with
    | _ n ih =>
      intro k u6 u7 u8 u9 g hg gb hk hl2
      have ih' := ih (n - 1)
      have hf := ltk_b (su μ) σ q k
      refine go_iload (y := mX1_lightestTurner) (pc := 14) dX1_lightestTurner_14 rfl ?_
      refine go_aload_n (y := mX1_lightestTurner) (pc := 16) dX1_lightestTurner_16 rfl rfl ?_
      refine go_getR (y := mX1_lightestTurner) (pc := 17) dX1_lightestTurner_17 fl_X1_39 (ch_sh hc 0 (by decide)) rfl (ch_z (r := 0) hc (by decide)) ?_
      refine go_sget (y := mX1_lightestTurner) (pc := 20) (r := 0) dX1_lightestTurner_20 fl_X1_104 hc (by decide) rfl rfl (by decide) (fun r20 => ?_)
      refine go_icmp_ge (y := mX1_lightestTurner) (pc := 23) (tgt := 117) dX1_lightestTurner_23 (by decide) (by omega) (by omega) (fun h23 => ?_) (fun h23 => ?_)
      · skip
        refine go_iload_n (y := mX1_lightestTurner) (pc := 117) dX1_lightestTurner_117 rfl rfl ?_
        refine go_ireturn (y := mX1_lightestTurner) (pc := 118) dX1_lightestTurner_118 rfl ?_
        have e : k = (su μ 0 7).toNat := by omega
        subst e
        exact K _ rfl (by omega)
      · skip
        have J85 : ∀ (v w t b : Int), v = vt σ k q → w = su μ 2 k → (b = 0 ∨ b = 1) → (b = 1 ↔ (decide (0 < g - 2 * vt σ k q * su μ 2 k) != decide (0 < g)) = true) → (1 ≤ w ∧ w ≤ 9) → go 276 4 0 0 mX1_lightestTurner Q X 85 [.ref c, .int (iI (q : Nat)), .int (iI g), .int (iI ((ltk (su μ) σ q k).1)), .int (iI ((ltk (su μ) σ q k).2)), .int (iI (k : Nat)), .int (iI v), .int (iI w), .int (iI t), u9] [.int (iI b)] (put c σ μ) := by
          intro v w t b hv hw gb2 hb wb
          have J104 : ((decide (0 < g - 2 * vt σ k q * su μ 2 k) != decide (0 < g)) = true ∧ ((ltk (su μ) σ q k).1 = -1 ∨ su μ 2 k < (ltk (su μ) σ q k).2)) → go 276 4 0 0 mX1_lightestTurner Q X 104 [.ref c, .int (iI (q : Nat)), .int (iI g), .int (iI ((ltk (su μ) σ q k).1)), .int (iI ((ltk (su μ) σ q k).2)), .int (iI (k : Nat)), .int (iI v), .int (iI w), .int (iI t), .int (iI b)] [] (put c σ μ) := by
            intro hor
            refine go_iload (y := mX1_lightestTurner) (pc := 104) dX1_lightestTurner_104 rfl ?_
            refine go_istore_n (y := mX1_lightestTurner) (pc := 106) dX1_lightestTurner_106 rfl (by decide) ?_
            refine go_iload (y := mX1_lightestTurner) (pc := 107) dX1_lightestTurner_107 rfl ?_
            refine go_istore (y := mX1_lightestTurner) (pc := 109) dX1_lightestTurner_109 (by decide) ?_
            refine go_iinc (y := mX1_lightestTurner) (pc := 111) dX1_lightestTurner_111 rfl (by decide) ?_
            refine go_goto (y := mX1_lightestTurner) (pc := 114) (tgt := 14) dX1_lightestTurner_114 (by decide) ?_
            have h := ih' (by omega) (k + 1) (.int (iI v)) (.int (iI w)) (.int (iI t)) (.int (iI b)) g hg gb (by omega)
            rw [ltk, ← hg, if_pos hor, ← hw] at h
            exact h (by show 0 ≤ w ∧ w ≤ 9; omega)
          have skp : (¬ ((decide (0 < g - 2 * vt σ k q * su μ 2 k) != decide (0 < g)) = true ∧ ((ltk (su μ) σ q k).1 = -1 ∨ su μ 2 k < (ltk (su μ) σ q k).2))) → go 276 4 0 0 mX1_lightestTurner Q X 111 [.ref c, .int (iI (q : Nat)), .int (iI g), .int (iI ((ltk (su μ) σ q k).1)), .int (iI ((ltk (su μ) σ q k).2)), .int (iI (k : Nat)), .int (iI v), .int (iI w), .int (iI t), .int (iI b)] [] (put c σ μ) := by
            intro hor
            refine go_iinc (y := mX1_lightestTurner) (pc := 111) dX1_lightestTurner_111 rfl (by decide) ?_
            refine go_goto (y := mX1_lightestTurner) (pc := 114) (tgt := 14) dX1_lightestTurner_114 (by decide) ?_
            have h := ih' (by omega) (k + 1) (.int (iI v)) (.int (iI w)) (.int (iI t)) (.int (iI b)) g hg gb (by omega)
            rw [ltk, ← hg, if_neg hor] at h
            exact h hl2
          refine go_istore (y := mX1_lightestTurner) (pc := 85) dX1_lightestTurner_85 (by decide) ?_
          refine go_iload (y := mX1_lightestTurner) (pc := 87) dX1_lightestTurner_87 rfl ?_
          refine go_if_eq (y := mX1_lightestTurner) (pc := 89) (tgt := 111) dX1_lightestTurner_89 (by decide) (by omega) (fun h89 => ?_) (fun h89 => ?_)
          · skip
            exact skp (fun w9 => by have := hb.mpr w9.1; omega)
          · skip
            have hb1 := hb.mp (by omega)
            refine go_iload_n (y := mX1_lightestTurner) (pc := 92) dX1_lightestTurner_92 rfl rfl ?_
            refine go_iconst (y := mX1_lightestTurner) (pc := 93) dX1_lightestTurner_93 ?_
            refine go_icmp_eq (y := mX1_lightestTurner) (pc := 94) (tgt := 104) dX1_lightestTurner_94 (by decide) (by omega) (by omega) (fun h94 => ?_) (fun h94 => ?_)
            · skip
              exact J104 ⟨hb1, Or.inl h94⟩
            · skip
              refine go_iload (y := mX1_lightestTurner) (pc := 97) dX1_lightestTurner_97 rfl ?_
              refine go_iload (y := mX1_lightestTurner) (pc := 99) dX1_lightestTurner_99 rfl ?_
              refine go_icmp_ge (y := mX1_lightestTurner) (pc := 101) (tgt := 111) dX1_lightestTurner_101 (by decide) (by omega) (by omega) (fun h101 => ?_) (fun h101 => ?_)
              · skip
                exact skp (fun w9 => by rcases w9.2 with w9 | w9 <;> omega)
              · skip
                exact J104 ⟨hb1, Or.inr (by omega)⟩
        have J77 : ∀ (v w t x y : Int), v = vt σ k q → w = su μ 2 k → (x = 0 ∨ x = 1) → (y = 0 ∨ y = 1) → x = bI (0 < g - 2 * vt σ k q * su μ 2 k) → y = bI (0 < g) → (1 ≤ w ∧ w ≤ 9) → go 276 4 0 0 mX1_lightestTurner Q X 77 [.ref c, .int (iI (q : Nat)), .int (iI g), .int (iI ((ltk (su μ) σ q k).1)), .int (iI ((ltk (su μ) σ q k).2)), .int (iI (k : Nat)), .int (iI v), .int (iI w), .int (iI t), u9] [.int (iI y), .int (iI x)] (put c σ μ) := by
          intro v w t x y hv hw gx gy hx hy wb
          have hxy := bne_pos hx hy
          refine go_icmp_eq (y := mX1_lightestTurner) (pc := 77) (tgt := 84) dX1_lightestTurner_77 (by decide) (by omega) (by omega) (fun h77 => ?_) (fun h77 => ?_)
          · skip
            refine go_iconst (y := mX1_lightestTurner) (pc := 84) dX1_lightestTurner_84 ?_
            exact J85 v w t 0 hv hw (by omega) ⟨fun w9 => absurd w9 (by decide), fun w9 => absurd w9 (hxy.mp h77)⟩ wb
          · skip
            refine go_iconst (y := mX1_lightestTurner) (pc := 80) dX1_lightestTurner_80 ?_
            refine go_goto (y := mX1_lightestTurner) (pc := 81) (tgt := 85) dX1_lightestTurner_81 (by decide) ?_
            refine J85 v w t 1 hv hw (by omega) ⟨fun _ => ?_, fun _ => rfl⟩ wb
            by_cases w9 : (decide (0 < g - 2 * vt σ k q * su μ 2 k) != decide (0 < g)) = true
            · exact w9
            · exact absurd (hxy.mpr w9) h77
        have J68 : ∀ (v w t x : Int), v = vt σ k q → w = su μ 2 k → (x = 0 ∨ x = 1) → x = bI (0 < g - 2 * vt σ k q * su μ 2 k) → (1 ≤ w ∧ w ≤ 9) → go 276 4 0 0 mX1_lightestTurner Q X 68 [.ref c, .int (iI (q : Nat)), .int (iI g), .int (iI ((ltk (su μ) σ q k).1)), .int (iI ((ltk (su μ) σ q k).2)), .int (iI (k : Nat)), .int (iI v), .int (iI w), .int (iI t), u9] [.int (iI x)] (put c σ μ) := by
          intro v w t x hv hw gx hx wb
          refine go_iload_n (y := mX1_lightestTurner) (pc := 68) dX1_lightestTurner_68 rfl rfl ?_
          refine go_if_le (y := mX1_lightestTurner) (pc := 69) (tgt := 76) dX1_lightestTurner_69 (by decide) (by omega) (fun h69 => ?_) (fun h69 => ?_)
          · skip
            refine go_iconst (y := mX1_lightestTurner) (pc := 76) dX1_lightestTurner_76 ?_
            exact J77 v w t x 0 hv hw gx (by omega) hx (by rw [bI_f (by omega)]) wb
          · skip
            refine go_iconst (y := mX1_lightestTurner) (pc := 72) dX1_lightestTurner_72 ?_
            refine go_goto (y := mX1_lightestTurner) (pc := 73) (tgt := 77) dX1_lightestTurner_73 (by decide) ?_
            exact J77 v w t x 1 hv hw gx (by omega) hx (by rw [bI_t (by omega)]) wb
        refine go_aload_n (y := mX1_lightestTurner) (pc := 26) dX1_lightestTurner_26 rfl rfl ?_
        refine go_iload (y := mX1_lightestTurner) (pc := 27) dX1_lightestTurner_27 rfl ?_
        refine go_iload_n (y := mX1_lightestTurner) (pc := 29) dX1_lightestTurner_29 rfl rfl ?_
        refine go_callV2 (y := mX1_lightestTurner) (pc := 30) (y' := mX1_voteOf) (kc2 := 0) (ks2 := 0) dX1_lightestTurner_30 ml_X1_230 ok_X1_voteOf (ch_sh hc 0 (by decide)) ⟨_, _, rfl⟩ (ch_z (r := 0) hc (by decide)) ⟨rfl, rfl⟩ (by decide) (Nat.le_of_ble_eq_true rfl) rfl (c_voteOf hc (m := k) (q := q) (by omega) hq (fun v30 e30 b30 => ?_))
        refine go_istore (y := mX1_lightestTurner) (pc := 33) dX1_lightestTurner_33 (by decide) ?_
        refine go_aload_n (y := mX1_lightestTurner) (pc := 35) dX1_lightestTurner_35 rfl rfl ?_
        refine go_getR (y := mX1_lightestTurner) (pc := 36) dX1_lightestTurner_36 fl_X1_39 (ch_sh hc 0 (by decide)) rfl (ch_z (r := 0) hc (by decide)) ?_
        refine go_getR (y := mX1_lightestTurner) (pc := 39) dX1_lightestTurner_39 fl_X1_175 rfl rfl (by decide) ?_
        refine go_iload (y := mX1_lightestTurner) (pc := 42) dX1_lightestTurner_42 rfl ?_
        refine go_sial (y := mX1_lightestTurner) (pc := 44) (r := 2) (k := k) dX1_lightestTurner_44 hc (by decide) rfl (by decide) rfl (by omega) (by decide) (fun r44 => ?_)
        have hw := hmem k (by omega)
        refine go_istore (y := mX1_lightestTurner) (pc := 45) dX1_lightestTurner_45 (by decide) ?_
        refine go_iload_n (y := mX1_lightestTurner) (pc := 47) dX1_lightestTurner_47 rfl rfl ?_
        refine go_iconst (y := mX1_lightestTurner) (pc := 48) dX1_lightestTurner_48 ?_
        refine go_iload (y := mX1_lightestTurner) (pc := 49) dX1_lightestTurner_49 rfl ?_
        refine go_imul (y := mX1_lightestTurner) (pc := 51) dX1_lightestTurner_51 ?_
        refine go_iload (y := mX1_lightestTurner) (pc := 52) dX1_lightestTurner_52 rfl ?_
        refine go_imul (y := mX1_lightestTurner) (pc := 54) dX1_lightestTurner_54 ?_
        have hp : -18 ≤ 2 * v30 * su μ 2 k ∧ 2 * v30 * su μ 2 k ≤ 18 := by rcases b30 with h | h | h <;> rw [h] <;> omega
        refine go_isub (y := mX1_lightestTurner) (pc := 55) dX1_lightestTurner_55 ?_
        refine go_istore (y := mX1_lightestTurner) (pc := 56) dX1_lightestTurner_56 (by decide) ?_
        refine go_iload (y := mX1_lightestTurner) (pc := 58) dX1_lightestTurner_58 rfl ?_
        refine go_if_le (y := mX1_lightestTurner) (pc := 60) (tgt := 67) dX1_lightestTurner_60 (by decide) (by omega) (fun h60 => ?_) (fun h60 => ?_)
        · skip
          refine go_iconst (y := mX1_lightestTurner) (pc := 67) dX1_lightestTurner_67 ?_
          exact J68 _ _ _ 0 e30 rfl (by omega) (by rw [← e30, bI_f (by omega)]) (by omega)
        · skip
          refine go_iconst (y := mX1_lightestTurner) (pc := 63) dX1_lightestTurner_63 ?_
          refine go_goto (y := mX1_lightestTurner) (pc := 64) (tgt := 68) dX1_lightestTurner_64 (by decide) ?_
          exact J68 _ _ _ 1 e30 rfl (by omega) (by rw [← e30, bI_t (by omega)]) (by omega)
  refine go_aload_n (y := mX1_lightestTurner) (pc := 0) dX1_lightestTurner_0 rfl rfl ?_
  refine go_iload_n (y := mX1_lightestTurner) (pc := 1) dX1_lightestTurner_1 rfl rfl ?_
  refine go_callV1 (y := mX1_lightestTurner) (pc := 2) (y' := mX1_marginOf) (kc2 := 0) (ks2 := 0) dX1_lightestTurner_2 ml_X1_236 ok_X1_marginOf (ch_sh hc 0 (by decide)) ⟨_, _, rfl⟩ (ch_z (r := 0) hc (by decide)) rfl (by decide) (Nat.le_of_ble_eq_true rfl) rfl (c_marginOf hc (q := q) (by omega) hS (fun v2 e2 b2 => ?_))
  refine go_istore_n (y := mX1_lightestTurner) (pc := 5) dX1_lightestTurner_5 rfl (by decide) ?_
  refine go_iconst (y := mX1_lightestTurner) (pc := 6) dX1_lightestTurner_6 ?_
  refine go_istore_n (y := mX1_lightestTurner) (pc := 7) dX1_lightestTurner_7 rfl (by decide) ?_
  refine go_iconst (y := mX1_lightestTurner) (pc := 8) dX1_lightestTurner_8 ?_
  refine go_istore (y := mX1_lightestTurner) (pc := 9) dX1_lightestTurner_9 (by decide) ?_
  refine go_iconst (y := mX1_lightestTurner) (pc := 11) dX1_lightestTurner_11 ?_
  refine go_istore (y := mX1_lightestTurner) (pc := 12) dX1_lightestTurner_12 (by decide) ?_
  exact loop (su μ 0 7).toNat 0 _ _ _ _ v2 e2 b2 (by omega) (by show (0 : Int) ≤ 0 ∧ (0 : Int) ≤ 9; omega)
def ccn (s : Mem) : Nat → Int
  | 0 => s 0 7 + 2 * s 0 10
  | k + 1 => ccn s k + s 2 k
def ctr (S s : Mem) : Int := ((wp (smf (fun m => S 4 m) (S 0 7).toNat - ccn s (S 0 7).toNat)).natAbs : Int) + ((wp (s 0 8 - cdv s (s 5 0).toNat)).natAbs : Int) + cdd s (S 0 7).toNat + cds s (s 11 0).toNat
set_option maxRecDepth 8000 in
set_option maxHeartbeats 4000000 in
theorem c_countContradictions {c : Nat} (hc : is_ch c) {σ μ : Mem} (hS : wfS (su μ)) (hC : wfC (su μ) σ) {Q : Option Value → Mem → Prop} {X : String → Mem → Prop} (K : Q (some (.int (iI (ctr (su μ) σ)))) (put c σ μ)) : mt 276 2 0 0 mX1_countContradictions [.ref c] Q X (put c σ μ) := by
  show go 276 2 0 0 mX1_countContradictions Q X 0 [.ref c, .null, .null, .null, .null, .null] [] _
  have n1 : 1 ≤ su μ 0 7 := hS.2.2.2.2.2.2.2.2.2.2.2.2.2.2.1
  have n2 : su μ 0 7 ≤ 12 := hS.2.2.2.2.2.2.2.2.2.2.2.2.2.2.2.1
  have h5 := hC.1.1
  have h16 := hC.1.2.1
  have h11 := hC.1.2.2.1
  have h12 : σ 11 0 ≤ 12 := by have := hC.1.2.2.2.1; omega
  have loop3 : ∀ (n k : Nat), (k : Int) + n = σ 11 0 → go 276 2 0 0 mX1_countContradictions Q X 132 [.ref c, .int (iI (ccn σ (su μ 0 7).toNat)), .int (iI (cdd σ (su μ 0 7).toNat)), .int (iI (cdv σ (σ 5 0).toNat)), .int (iI (cds σ k)), .int (iI (k : Nat))] [] (put c σ μ) := by
    intro n
    induction n using Nat.strongRecOn with
    | _ n ih =>
      intro k hk
      have ih' := ih (n - 1)
      refine go_iload (y := mX1_countContradictions) (pc := 132) dX1_countContradictions_132 rfl ?_
      refine go_aload_n (y := mX1_countContradictions) (pc := 134) dX1_countContradictions_134 rfl rfl ?_
      refine go_getR (y := mX1_countContradictions) (pc := 135) dX1_countContradictions_135 fl_X1_28 (ch_sh hc 0 (by decide)) rfl (ch_z (r := 0) hc (by decide)) ?_
      refine go_cget (y := mX1_countContradictions) (pc := 138) (r := 11) dX1_countContradictions_138 fl_X1_51 hc (by decide) rfl rfl (by decide) (fun r138 => ?_)
      refine go_icmp_ge (y := mX1_countContradictions) (pc := 141) (tgt := 173) dX1_countContradictions_141 (by decide) (by omega) (by omega) (fun h141 => ?_) (fun h141 => ?_)
      · skip
        refine go_aload_n (y := mX1_countContradictions) (pc := 173) dX1_countContradictions_173 rfl rfl ?_
        refine go_getR (y := mX1_countContradictions) (pc := 174) dX1_countContradictions_174 fl_X1_39 (ch_sh hc 0 (by decide)) rfl (ch_z (r := 0) hc (by decide)) ?_
        refine go_callV0 (y := mX1_countContradictions) (pc := 177) (y' := mX7_totalPurse) (kc2 := 0) (ks2 := 0) dX1_countContradictions_177 ml_X1_257 ok_X7_totalPurse (show shp 10 = _ from rfl) ⟨_, _, rfl⟩ (by decide) trivial (by decide) (Nat.le_of_ble_eq_true rfl) rfl (s_totalPurse hc (by omega) (by omega) ?_)
        refine go_iload_n (y := mX1_countContradictions) (pc := 180) dX1_countContradictions_180 rfl rfl ?_
        refine go_isub (y := mX1_countContradictions) (pc := 181) dX1_countContradictions_181 ?_
        refine go_topI (b := wp (smf (fun m => su μ 4 m) (su μ 0 7).toNat - ccn σ (su μ 0 7).toNat)) (iI_wp _).symm ?_
        refine go_mabs (y := mX1_countContradictions) (pc := 182) dX1_countContradictions_182 ml_X1_110 (by decide) (Nat.le_of_ble_eq_true rfl) (wp_rng _) ?_
        refine go_aload_n (y := mX1_countContradictions) (pc := 185) dX1_countContradictions_185 rfl rfl ?_
        refine go_cget (y := mX1_countContradictions) (pc := 186) (r := 0) dX1_countContradictions_186 fl_X1_63 hc (by decide) rfl rfl (by decide) (fun r186 => ?_)
        refine go_iload_n (y := mX1_countContradictions) (pc := 189) dX1_countContradictions_189 rfl rfl ?_
        refine go_isub (y := mX1_countContradictions) (pc := 190) dX1_countContradictions_190 ?_
        refine go_topI (b := wp (σ 0 8 - cdv σ (σ 5 0).toNat)) (iI_wp _).symm ?_
        refine go_mabs (y := mX1_countContradictions) (pc := 191) dX1_countContradictions_191 ml_X1_110 (by decide) (Nat.le_of_ble_eq_true rfl) (wp_rng _) ?_
        refine go_iadd (y := mX1_countContradictions) (pc := 194) dX1_countContradictions_194 ?_
        refine go_iload_n (y := mX1_countContradictions) (pc := 195) dX1_countContradictions_195 rfl rfl ?_
        refine go_iadd (y := mX1_countContradictions) (pc := 196) dX1_countContradictions_196 ?_
        refine go_iload (y := mX1_countContradictions) (pc := 197) dX1_countContradictions_197 rfl ?_
        refine go_iadd (y := mX1_countContradictions) (pc := 199) dX1_countContradictions_199 ?_
        refine go_ireturn (y := mX1_countContradictions) (pc := 200) dX1_countContradictions_200 rfl ?_
        have e : k = (σ 11 0).toNat := by omega
        subst e
        exact K
      · skip
        refine go_aload_n (y := mX1_countContradictions) (pc := 144) dX1_countContradictions_144 rfl rfl ?_
        refine go_getR (y := mX1_countContradictions) (pc := 145) dX1_countContradictions_145 fl_X1_21 (ch_sh hc 0 (by decide)) rfl (ch_z (r := 0) hc (by decide)) ?_
        refine go_aload_n (y := mX1_countContradictions) (pc := 148) dX1_countContradictions_148 rfl rfl ?_
        refine go_getR (y := mX1_countContradictions) (pc := 149) dX1_countContradictions_149 fl_X1_28 (ch_sh hc 0 (by decide)) rfl (ch_z (r := 0) hc (by decide)) ?_
        refine go_getR (y := mX1_countContradictions) (pc := 152) dX1_countContradictions_152 fl_X1_181 (ch_sh hc 11 (by decide)) rfl (ch_z (r := 11) hc (by decide)) ?_
        refine go_iload (y := mX1_countContradictions) (pc := 155) dX1_countContradictions_155 rfl ?_
        refine go_cial (y := mX1_countContradictions) (pc := 157) (r := 13) (k := k) dX1_countContradictions_157 hc (by decide) rfl (by decide) rfl (by omega) (by decide) (fun r157 => ?_)
        refine go_callV1 (y := mX1_countContradictions) (pc := 158) (y' := mX4_isOpen) (kc2 := 0) (ks2 := 0) dX1_countContradictions_158 ml_X1_123 ok_X4_isOpen (ch_sh hc 5 (by decide)) ⟨_, _, rfl⟩ (ch_z (r := 5) hc (by decide)) rfl (by decide) (Nat.le_of_ble_eq_true rfl) rfl (c_isOpen hc (by omega) h16 (fun v158 e158 b158 => ?_))
        refine go_if_ne (y := mX1_countContradictions) (pc := 161) (tgt := 167) dX1_countContradictions_161 (by decide) (by omega) (fun h161 => ?_) (fun h161 => ?_)
        · skip
          refine go_iinc (y := mX1_countContradictions) (pc := 167) dX1_countContradictions_167 rfl (by decide) ?_
          refine go_goto (y := mX1_countContradictions) (pc := 170) (tgt := 132) dX1_countContradictions_170 (by decide) ?_
          have h := ih' (by omega) (k + 1) (by omega)
          have e : cds σ (k + 1) = cds σ k := by
            show cds σ k + (if opn σ (σ 13 k) then 0 else 1) = _
            rw [if_pos (bI_1 e158 h161)]; omega
          rw [e] at h
          exact h
        · skip
          refine go_iinc (y := mX1_countContradictions) (pc := 164) dX1_countContradictions_164 rfl (by decide) ?_
          refine go_iinc (y := mX1_countContradictions) (pc := 167) dX1_countContradictions_167 rfl (by decide) ?_
          refine go_goto (y := mX1_countContradictions) (pc := 170) (tgt := 132) dX1_countContradictions_170 (by decide) ?_
          have h := ih' (by omega) (k + 1) (by omega)
          have e : cds σ (k + 1) = cds σ k + 1 := by
            show cds σ k + (if opn σ (σ 13 k) then 0 else 1) = _
            rw [if_neg (bI_0 e158 h161)]
          rw [e] at h
          exact h
  have loop2 : ∀ (n k : Nat), (k : Int) + n = σ 5 0 → go 276 2 0 0 mX1_countContradictions Q X 77 [.ref c, .int (iI (ccn σ (su μ 0 7).toNat)), .int (iI (cdd σ (su μ 0 7).toNat)), .int (iI (cdv σ k)), .int (iI (k : Nat)), .null] [] (put c σ μ) := by
    intro n
    induction n using Nat.strongRecOn with
    | _ n ih =>
      intro k hk
      have ih' := ih (n - 1)
      have J117 : (k : Int) < σ 5 0 → (σ 7 k = 1 ∨ σ 7 k = 2) → go 276 2 0 0 mX1_countContradictions Q X 117 [.ref c, .int (iI (ccn σ (su μ 0 7).toNat)), .int (iI (cdd σ (su μ 0 7).toNat)), .int (iI (cdv σ k)), .int (iI (k : Nat)), .null] [] (put c σ μ) := by
        intro hkn hor
        refine go_iinc (y := mX1_countContradictions) (pc := 117) dX1_countContradictions_117 rfl (by decide) ?_
        refine go_iinc (y := mX1_countContradictions) (pc := 120) dX1_countContradictions_120 rfl (by decide) ?_
        refine go_goto (y := mX1_countContradictions) (pc := 123) (tgt := 77) dX1_countContradictions_123 (by decide) ?_
        have h := ih' (by omega) (k + 1) (by omega)
        have e : cdv σ (k + 1) = cdv σ k + 1 := by
          show cdv σ k + (if σ 7 k = 1 ∨ σ 7 k = 2 then 1 else 0) = _
          rw [if_pos hor]
        rw [e] at h
        exact h
      refine go_iload (y := mX1_countContradictions) (pc := 77) dX1_countContradictions_77 rfl ?_
      refine go_aload_n (y := mX1_countContradictions) (pc := 79) dX1_countContradictions_79 rfl rfl ?_
      refine go_getR (y := mX1_countContradictions) (pc := 80) dX1_countContradictions_80 fl_X1_21 (ch_sh hc 0 (by decide)) rfl (ch_z (r := 0) hc (by decide)) ?_
      refine go_cget (y := mX1_countContradictions) (pc := 83) (r := 5) dX1_countContradictions_83 fl_X1_47 hc (by decide) rfl rfl (by decide) (fun r83 => ?_)
      refine go_icmp_ge (y := mX1_countContradictions) (pc := 86) (tgt := 126) dX1_countContradictions_86 (by decide) (by omega) (by omega) (fun h86 => ?_) (fun h86 => ?_)
      · skip
        refine go_iconst (y := mX1_countContradictions) (pc := 126) dX1_countContradictions_126 ?_
        refine go_istore (y := mX1_countContradictions) (pc := 127) dX1_countContradictions_127 (by decide) ?_
        refine go_iconst (y := mX1_countContradictions) (pc := 129) dX1_countContradictions_129 ?_
        refine go_istore (y := mX1_countContradictions) (pc := 130) dX1_countContradictions_130 (by decide) ?_
        have e : k = (σ 5 0).toNat := by omega
        subst e
        exact loop3 (σ 11 0).toNat 0 (by omega)
      · skip
        refine go_aload_n (y := mX1_countContradictions) (pc := 89) dX1_countContradictions_89 rfl rfl ?_
        refine go_getR (y := mX1_countContradictions) (pc := 90) dX1_countContradictions_90 fl_X1_21 (ch_sh hc 0 (by decide)) rfl (ch_z (r := 0) hc (by decide)) ?_
        refine go_getR (y := mX1_countContradictions) (pc := 93) dX1_countContradictions_93 fl_X1_95 (ch_sh hc 5 (by decide)) rfl (ch_z (r := 5) hc (by decide)) ?_
        refine go_iload (y := mX1_countContradictions) (pc := 96) dX1_countContradictions_96 rfl ?_
        refine go_cial (y := mX1_countContradictions) (pc := 98) (r := 7) (k := k) dX1_countContradictions_98 hc (by decide) rfl (by decide) rfl (by omega) (by decide) (fun r98 => ?_)
        refine go_iconst (y := mX1_countContradictions) (pc := 99) dX1_countContradictions_99 ?_
        refine go_icmp_eq (y := mX1_countContradictions) (pc := 100) (tgt := 117) dX1_countContradictions_100 (by decide) (by omega) (by omega) (fun h100 => ?_) (fun h100 => ?_)
        · skip
          exact J117 (by omega) (Or.inl h100)
        · skip
          refine go_aload_n (y := mX1_countContradictions) (pc := 103) dX1_countContradictions_103 rfl rfl ?_
          refine go_getR (y := mX1_countContradictions) (pc := 104) dX1_countContradictions_104 fl_X1_21 (ch_sh hc 0 (by decide)) rfl (ch_z (r := 0) hc (by decide)) ?_
          refine go_getR (y := mX1_countContradictions) (pc := 107) dX1_countContradictions_107 fl_X1_95 (ch_sh hc 5 (by decide)) rfl (ch_z (r := 5) hc (by decide)) ?_
          refine go_iload (y := mX1_countContradictions) (pc := 110) dX1_countContradictions_110 rfl ?_
          refine go_cial (y := mX1_countContradictions) (pc := 112) (r := 7) (k := k) dX1_countContradictions_112 hc (by decide) rfl (by decide) rfl (by omega) (by decide) (fun r112 => ?_)
          refine go_iconst (y := mX1_countContradictions) (pc := 113) dX1_countContradictions_113 ?_
          refine go_icmp_ne (y := mX1_countContradictions) (pc := 114) (tgt := 120) dX1_countContradictions_114 (by decide) (by omega) (by omega) (fun h114 => ?_) (fun h114 => ?_)
          · skip
            refine go_iinc (y := mX1_countContradictions) (pc := 120) dX1_countContradictions_120 rfl (by decide) ?_
            refine go_goto (y := mX1_countContradictions) (pc := 123) (tgt := 77) dX1_countContradictions_123 (by decide) ?_
            have h := ih' (by omega) (k + 1) (by omega)
            have e : cdv σ (k + 1) = cdv σ k := by
              show cdv σ k + (if σ 7 k = 1 ∨ σ 7 k = 2 then 1 else 0) = _
              rw [if_neg (by omega)]; omega
            rw [e] at h
            exact h
          · skip
            exact J117 (by omega) (Or.inr h114)
  have loop1 : ∀ (n k : Nat), (k : Int) + n = su μ 0 7 → go 276 2 0 0 mX1_countContradictions Q X 16 [.ref c, .int (iI (ccn σ k)), .int (iI (cdd σ k)), .int (iI (k : Nat)), .null, .null] [] (put c σ μ) := by
    intro n
    induction n using Nat.strongRecOn with
    | _ n ih =>
      intro k hk
      have ih' := ih (n - 1)
      refine go_iload_n (y := mX1_countContradictions) (pc := 16) dX1_countContradictions_16 rfl rfl ?_
      refine go_aload_n (y := mX1_countContradictions) (pc := 17) dX1_countContradictions_17 rfl rfl ?_
      refine go_getR (y := mX1_countContradictions) (pc := 18) dX1_countContradictions_18 fl_X1_39 (ch_sh hc 0 (by decide)) rfl (ch_z (r := 0) hc (by decide)) ?_
      refine go_sget (y := mX1_countContradictions) (pc := 21) (r := 0) dX1_countContradictions_21 fl_X1_104 hc (by decide) rfl rfl (by decide) (fun r21 => ?_)
      refine go_icmp_ge (y := mX1_countContradictions) (pc := 24) (tgt := 72) dX1_countContradictions_24 (by decide) (by omega) (by omega) (fun h24 => ?_) (fun h24 => ?_)
      · skip
        refine go_iconst (y := mX1_countContradictions) (pc := 72) dX1_countContradictions_72 ?_
        refine go_istore_n (y := mX1_countContradictions) (pc := 73) dX1_countContradictions_73 rfl (by decide) ?_
        refine go_iconst (y := mX1_countContradictions) (pc := 74) dX1_countContradictions_74 ?_
        refine go_istore (y := mX1_countContradictions) (pc := 75) dX1_countContradictions_75 (by decide) ?_
        have e : k = (su μ 0 7).toNat := by omega
        subst e
        exact loop2 (σ 5 0).toNat 0 (by omega)
      · skip
        have J66 : ∀ d : Int, d = cdd σ (k + 1) → go 276 2 0 0 mX1_countContradictions Q X 66 [.ref c, .int (iI (ccn σ k + σ 2 k)), .int (iI d), .int (iI (k : Nat)), .null, .null] [] (put c σ μ) := by
          intro d hd
          refine go_iinc (y := mX1_countContradictions) (pc := 66) dX1_countContradictions_66 rfl (by decide) ?_
          refine go_goto (y := mX1_countContradictions) (pc := 69) (tgt := 16) dX1_countContradictions_69 (by decide) ?_
          have h := ih' (by omega) (k + 1) (by omega)
          rw [← hd] at h
          exact h
        refine go_iload_n (y := mX1_countContradictions) (pc := 27) dX1_countContradictions_27 rfl rfl ?_
        refine go_aload_n (y := mX1_countContradictions) (pc := 28) dX1_countContradictions_28 rfl rfl ?_
        refine go_getR (y := mX1_countContradictions) (pc := 29) dX1_countContradictions_29 fl_X1_12 (ch_sh hc 0 (by decide)) rfl (ch_z (r := 0) hc (by decide)) ?_
        refine go_getR (y := mX1_countContradictions) (pc := 32) dX1_countContradictions_32 fl_X1_251 (ch_sh hc 1 (by decide)) rfl (ch_z (r := 1) hc (by decide)) ?_
        refine go_iload_n (y := mX1_countContradictions) (pc := 35) dX1_countContradictions_35 rfl rfl ?_
        refine go_cial (y := mX1_countContradictions) (pc := 36) (r := 2) (k := k) dX1_countContradictions_36 hc (by decide) rfl (by decide) rfl (by omega) (by decide) (fun r36 => ?_)
        refine go_iadd (y := mX1_countContradictions) (pc := 37) dX1_countContradictions_37 ?_
        refine go_istore_n (y := mX1_countContradictions) (pc := 38) dX1_countContradictions_38 rfl (by decide) ?_
        refine go_aload_n (y := mX1_countContradictions) (pc := 39) dX1_countContradictions_39 rfl rfl ?_
        refine go_getR (y := mX1_countContradictions) (pc := 40) dX1_countContradictions_40 fl_X1_28 (ch_sh hc 0 (by decide)) rfl (ch_z (r := 0) hc (by decide)) ?_
        refine go_iload_n (y := mX1_countContradictions) (pc := 43) dX1_countContradictions_43 rfl rfl ?_
        refine go_callV1 (y := mX1_countContradictions) (pc := 44) (y' := mX5_placeOf) (kc2 := 0) (ks2 := 0) dX1_countContradictions_44 ml_X1_132 ok_X5_placeOf (ch_sh hc 11 (by decide)) ⟨_, _, rfl⟩ (ch_z (r := 11) hc (by decide)) rfl (by decide) (Nat.le_of_ble_eq_true rfl) rfl (c_placeOf hc (by omega) h11 h12 (fun v44 e44 b44 => ?_))
        refine go_iconst (y := mX1_countContradictions) (pc := 47) dX1_countContradictions_47 ?_
        refine go_icmp_eq (y := mX1_countContradictions) (pc := 48) (tgt := 66) dX1_countContradictions_48 (by decide) (by omega) (by omega) (fun h48 => ?_) (fun h48 => ?_)
        · skip
          refine J66 _ ?_
          show _ = cdd σ k + (if plc σ k ≠ -1 ∧ tkn σ k ≠ -1 then 1 else 0)
          rw [if_neg (fun w => w.1 (e44.symm.trans h48))]; omega
        · skip
          refine go_aload_n (y := mX1_countContradictions) (pc := 51) dX1_countContradictions_51 rfl rfl ?_
          refine go_getR (y := mX1_countContradictions) (pc := 52) dX1_countContradictions_52 fl_X1_35 (ch_sh hc 0 (by decide)) rfl (ch_z (r := 0) hc (by decide)) ?_
          refine go_iload_n (y := mX1_countContradictions) (pc := 55) dX1_countContradictions_55 rfl rfl ?_
          refine go_callV1 (y := mX1_countContradictions) (pc := 56) (y' := mX0_takenBy) (kc2 := 0) (ks2 := 0) dX1_countContradictions_56 ml_X1_135 ok_X0_takenBy (ch_sh hc 15 (by decide)) ⟨_, _, rfl⟩ (ch_z (r := 15) hc (by decide)) rfl (by decide) (Nat.le_of_ble_eq_true rfl) rfl (c_takenBy hc (by omega) (fun v56 e56 b56 => ?_))
          refine go_iconst (y := mX1_countContradictions) (pc := 59) dX1_countContradictions_59 ?_
          refine go_icmp_eq (y := mX1_countContradictions) (pc := 60) (tgt := 66) dX1_countContradictions_60 (by decide) (by omega) (by omega) (fun h60 => ?_) (fun h60 => ?_)
          · skip
            refine J66 _ ?_
            show _ = cdd σ k + (if plc σ k ≠ -1 ∧ tkn σ k ≠ -1 then 1 else 0)
            rw [if_neg (fun w => w.2 (e56.symm.trans h60))]; omega
          · skip
            refine go_iinc (y := mX1_countContradictions) (pc := 63) dX1_countContradictions_63 rfl (by decide) ?_
            refine J66 _ ?_
            show _ = cdd σ k + (if plc σ k ≠ -1 ∧ tkn σ k ≠ -1 then 1 else 0)
            rw [if_pos ⟨fun w => h48 (e44.trans w), fun w => h60 (e56.trans w)⟩]
  refine go_aload_n (y := mX1_countContradictions) (pc := 0) dX1_countContradictions_0 rfl rfl ?_
  refine go_cget (y := mX1_countContradictions) (pc := 1) (r := 0) dX1_countContradictions_1 fl_X1_60 hc (by decide) rfl rfl (by decide) (fun r1 => ?_)
  refine go_iconst (y := mX1_countContradictions) (pc := 4) dX1_countContradictions_4 ?_
  refine go_aload_n (y := mX1_countContradictions) (pc := 5) dX1_countContradictions_5 rfl rfl ?_
  refine go_cget (y := mX1_countContradictions) (pc := 6) (r := 0) dX1_countContradictions_6 fl_X1_69 hc (by decide) rfl rfl (by decide) (fun r6 => ?_)
  refine go_imul (y := mX1_countContradictions) (pc := 9) dX1_countContradictions_9 ?_
  refine go_iadd (y := mX1_countContradictions) (pc := 10) dX1_countContradictions_10 ?_
  refine go_istore_n (y := mX1_countContradictions) (pc := 11) dX1_countContradictions_11 rfl (by decide) ?_
  refine go_iconst (y := mX1_countContradictions) (pc := 12) dX1_countContradictions_12 ?_
  refine go_istore_n (y := mX1_countContradictions) (pc := 13) dX1_countContradictions_13 rfl (by decide) ?_
  refine go_iconst (y := mX1_countContradictions) (pc := 14) dX1_countContradictions_14 ?_
  refine go_istore_n (y := mX1_countContradictions) (pc := 15) dX1_countContradictions_15 rfl (by decide) ?_
  exact loop1 (su μ 0 7).toNat 0 (by omega)
