/-! OWN: the first request, who turns a vote -/
theorem rnk_b {S s : Mem} {N : Int} (hS : wfS S) (hC : wfC S s) (hL : lim S s N) {r : Nat} (hr : (r : Int) < s 11 0) {b : Int} (hb : 0 ≤ b ∧ b ≤ 3) : -9 ≤ rnk S s r b ∧ (rnk S s r b ≤ N ∨ rnk S s r b ≤ 1) := by
  obtain ⟨m, hm⟩ := Int.eq_ofNat_of_zero_le (hC.2.2.2.1 r hr).1
  have hd := hC.2.2.2.1 r hr
  have hw := hS.2.2.2.2.2.2.2.2.2.2.2.2.2.2.2.2 m (by omega)
  have hl := hL m (by omega)
  unfold rnk
  rw [hm, Int.toNat_natCast]
  (repeat' split) <;> omega
set_option maxRecDepth 8000 in
set_option maxHeartbeats 4000000 in
theorem o_firstBy {z w : Nat} (hw : is_ow w) (hz : w + 17 ≤ z) {S s ω μ : Mem} (hS : wfS S) (hC : wfC S s) (hR : own S s ω) {N : Int} (hL : lim S s N) (hN : N ≤ 1000010) {b : Int} (hb : 0 ≤ b ∧ b ≤ 3) {Q : Option Value → Mem → Prop} {X : String → Mem → Prop} (K : ∀ v, v = fsl S s b → -1 ≤ v ∧ v < 12 ∧ (v = -1 ∨ v < s 11 0) → Q (some (.int (iI v))) (ow w ω μ)) : mt z 2 0 0 mX11_firstBy [.ref w, .int (iI b)] Q X (ow w ω μ) := by
  show go z 2 0 0 mX11_firstBy Q X 0 [.ref w, .int (iI b), .null, .null] [] _
  have h12 : S 0 7 ≤ 12 := hS.2.2.2.2.2.2.2.2.2.2.2.2.2.2.2.1
  have h11 := hC.1.2.2.1
  have h11b := hC.1.2.2.2.1
  have loop : ∀ (k : Nat) (v : Int), (k : Int) ≤ s 11 0 → isSel (fun _ => True) (fun r => rnk S s r b) k (s 11 0).toNat v → go z 2 0 0 mX11_firstBy Q X 9 [.ref w, .int (iI b), .int (iI v), .int (iI ((k : Int) - 1))] [] (ow w ω μ) := by
    intro k
    induction k with
    | zero =>
      intro v hk hs
      have hb9 : -1 ≤ v ∧ v < 12 ∧ (v = -1 ∨ v < s 11 0) := by
        rcases hs with ⟨g, -⟩ | ⟨i, g, -, g2, -⟩ <;> omega
      refine go_iload_n (y := mX11_firstBy) (pc := 9) dX11_firstBy_9 rfl rfl ?_
      refine go_if_lt (y := mX11_firstBy) (pc := 10) (tgt := 44) dX11_firstBy_10 (by decide) (by omega) (fun h10 => ?_) (fun h10 => ?_)
      · skip
        refine go_iload_n (y := mX11_firstBy) (pc := 44) dX11_firstBy_44 rfl rfl ?_
        refine go_ireturn (y := mX11_firstBy) (pc := 45) dX11_firstBy_45 rfl ?_
        exact K _ (sel_u hs (fsl_sel S s b)) hb9
      · skip
        exact absurd h10 (by omega)
    | succ k ih =>
      intro v hk hs
      have hk2 : (k : Int) < s 11 0 := by omega
      have rk := rnk_b hS hC hL hk2 hb
      have back : ∀ v : Int, isSel (fun _ => True) (fun r => rnk S s r b) k (s 11 0).toNat v → go z 2 0 0 mX11_firstBy Q X 37 [.ref w, .int (iI b), .null, .int (iI (k : Nat))] [.int (iI v)] (ow w ω μ) := by
        intro v hv
        refine go_istore_n (y := mX11_firstBy) (pc := 37) dX11_firstBy_37 rfl (by decide) ?_
        refine go_iinc (y := mX11_firstBy) (pc := 38) dX11_firstBy_38 rfl (by decide) ?_
        refine go_goto (y := mX11_firstBy) (pc := 41) (tgt := 9) dX11_firstBy_41 (by decide) ?_
        have h := ih v (by omega) hv
        rw [show (k : Int) - 1 = (k : Int) + -1 by omega] at h
        exact h
      have hv9 : v = -1 ∨ (0 ≤ v ∧ v < s 11 0) := by
        rcases hs with ⟨g, -⟩ | ⟨i, g, -, g2, -⟩ <;> omega
      refine go_loc (i := 3) (show ((k + 1 : Nat) : Int) - 1 = ((k : Nat) : Int) by omega) rfl ?_
      have take : (v = -1 ∨ ∀ i : Nat, v = i → rnk S s k b ≤ rnk S s i b) → go z 2 0 0 mX11_firstBy Q X 32 [.ref w, .int (iI b), .int (iI v), .int (iI (k : Nat))] [] (ow w ω μ) := by
        intro h9
        refine go_iload_n (y := mX11_firstBy) (pc := 32) dX11_firstBy_32 rfl rfl ?_
        refine go_goto (y := mX11_firstBy) (pc := 33) (tgt := 37) dX11_firstBy_33 (by decide) ?_
        exact go_fgt 2 (back _ (sel_d1 hs (by omega) trivial h9))
      refine go_iload_n (y := mX11_firstBy) (pc := 9) dX11_firstBy_9 rfl rfl ?_
      refine go_if_lt (y := mX11_firstBy) (pc := 10) (tgt := 44) dX11_firstBy_10 (by decide) (by omega) (fun h10 => ?_) (fun h10 => ?_)
      · skip
        exact absurd h10 (by omega)
      · skip
        refine go_iload_n (y := mX11_firstBy) (pc := 13) dX11_firstBy_13 rfl rfl ?_
        refine go_if_lt (y := mX11_firstBy) (pc := 14) (tgt := 32) dX11_firstBy_14 (by decide) (by omega) (fun h14 => ?_) (fun h14 => ?_)
        · skip
          exact take (Or.inl (by omega))
        · skip
          obtain ⟨i, hi⟩ := Int.eq_ofNat_of_zero_le (show 0 ≤ v by omega)
          have ri := rnk_b hS hC hL (r := i) (by omega) hb
          have sk : -1000011 ≤ scr S s k b ∧ scr S s k b ≤ 10 := by unfold scr; split <;> omega
          have si : -1000011 ≤ scr S s i b ∧ scr S s i b ≤ 10 := by unfold scr; split <;> omega
          refine go_aload_n (y := mX11_firstBy) (pc := 17) dX11_firstBy_17 rfl rfl ?_
          refine go_iload_n (y := mX11_firstBy) (pc := 18) dX11_firstBy_18 rfl rfl ?_
          refine go_iload_n (y := mX11_firstBy) (pc := 19) dX11_firstBy_19 rfl rfl ?_
          refine go_callV2 (y := mX11_firstBy) (pc := 20) (y' := mX11_score) (kc2 := 0) (ks2 := 0) dX11_firstBy_20 ml_X11_127 ok_X11_score (ow_sh hw 0 (by decide)) ⟨_, _, rfl⟩ (by omega) ⟨rfl, rfl⟩ ⟨by decide, Nat.le_refl _, by decide, by decide, by decide⟩ (Nat.le_of_ble_eq_true rfl) rfl (o_score hw hz hS hC hR (r := k) (by omega) (by omega) (fun v20 e20 => ?_))
          refine go_aload_n (y := mX11_firstBy) (pc := 23) dX11_firstBy_23 rfl rfl ?_
          refine go_iload_n (y := mX11_firstBy) (pc := 24) dX11_firstBy_24 rfl rfl ?_
          refine go_top (b := ((i : Nat) : Int)) (hi) (fun t24 => ?_)
          refine go_iload_n (y := mX11_firstBy) (pc := 25) dX11_firstBy_25 rfl rfl ?_
          refine go_callV2 (y := mX11_firstBy) (pc := 26) (y' := mX11_score) (kc2 := 0) (ks2 := 0) dX11_firstBy_26 ml_X11_127 ok_X11_score (ow_sh hw 0 (by decide)) ⟨_, _, rfl⟩ (by omega) ⟨rfl, rfl⟩ ⟨by decide, Nat.le_refl _, by decide, by decide, by decide⟩ (Nat.le_of_ble_eq_true rfl) rfl (o_score hw hz hS hC hR (r := i) (by omega) hb (fun v26 e26 => ?_))
          refine go_icmp_lt (y := mX11_firstBy) (pc := 29) (tgt := 36) dX11_firstBy_29 (by decide) (by omega) (by omega) (fun h29 => ?_) (fun h29 => ?_)
          · skip
            refine go_iload_n (y := mX11_firstBy) (pc := 36) dX11_firstBy_36 rfl rfl ?_
            refine go_fgt 2 (back _ (sel_d2 hs (Or.inr ⟨i, hi, ?_⟩)))
            show rnk S s i b < rnk S s k b
            rw [e20, e26] at h29
            unfold scr at h29
            omega
          · skip
            refine take (Or.inr (fun j hj => ?_))
            have : j = i := by omega
            subst this
            rw [e20, e26] at h29
            unfold scr at h29
            omega
  refine go_iconst (y := mX11_firstBy) (pc := 0) dX11_firstBy_0 ?_
  refine go_istore_n (y := mX11_firstBy) (pc := 1) dX11_firstBy_1 rfl (by decide) ?_
  refine go_aload_n (y := mX11_firstBy) (pc := 2) dX11_firstBy_2 rfl rfl ?_
  refine go_callV0 (y := mX11_firstBy) (pc := 3) (y' := mX11_requests) (kc2 := 0) (ks2 := 0) dX11_firstBy_3 ml_X11_123 ok_X11_requests (ow_sh hw 0 (by decide)) ⟨_, _, rfl⟩ (by omega) trivial ⟨by decide, Nat.le_refl _, by decide, by decide, by decide⟩ (Nat.le_of_ble_eq_true rfl) rfl (o_requests hw hz hS hC hR ?_)
  refine go_iconst (y := mX11_firstBy) (pc := 6) dX11_firstBy_6 ?_
  refine go_isub (y := mX11_firstBy) (pc := 7) dX11_firstBy_7 ?_
  refine go_istore_n (y := mX11_firstBy) (pc := 8) dX11_firstBy_8 rfl (by decide) ?_
  have h := loop (s 11 0).toNat (-1) (by omega) sel_e
  rw [show (((s 11 0).toNat : Nat) : Int) - 1 = s 11 0 - 1 by omega] at h
  exact h
theorem tr_iff {S s : Mem} {q k : Nat} {x y : Int} (hx : x = bI (0 < mgn S s q - 2 * vt s k q * S 2 k)) (hy : y = bI (0 < mgn S s q)) : (x = y ↔ ¬ trT S s q k) := by
  subst hx hy
  unfold bI trT
  by_cases h1 : 0 < mgn S s q - 2 * vt s k q * S 2 k <;> by_cases h2 : 0 < mgn S s q <;> simp [h1, h2]
set_option maxRecDepth 8000 in
set_option maxHeartbeats 4000000 in
theorem o_decisive {z w : Nat} (hw : is_ow w) (hz : w + 17 ≤ z) {S s ω μ : Mem} (hS : wfS S) (hC : wfC S s) (hR : own S s ω) {q : Nat} (hq : (q : Int) < s 5 0) {Q : Option Value → Mem → Prop} {X : String → Mem → Prop} (K : ∀ v, v = (ltk S s q (S 0 7).toNat).1 → -1 ≤ v ∧ v < 12 → Q (some (.int (iI v))) (ow w ω μ)) : mt z 3 0 0 mX11_decisive [.ref w, .int (iI (q : Nat))] Q X (ow w ω μ) := by
  show go z 3 0 0 mX11_decisive Q X 0 [.ref w, .int (iI (q : Nat)), .null, .null, .null, .null, .null] [] _
  have n1 : 1 ≤ S 0 7 := hS.2.2.2.2.2.2.2.2.2.2.2.2.2.2.1
  have h12 : S 0 7 ≤ 12 := hS.2.2.2.2.2.2.2.2.2.2.2.2.2.2.2.1
  have e8 := hR.1.2.2.2.2.2.2.2.2.1
  have loop : ∀ (k : Nat) (v : Int) (u4 u5 u6 : Value), (k : Int) ≤ S 0 7 → isSel (trT S s q) (fun m => S 2 m) k (S 0 7).toNat v → go z 3 0 0 mX11_decisive Q X 9 [.ref w, .int (iI (q : Nat)), .int (iI v), .int (iI ((k : Int) - 1)), u4, u5, u6] [] (ow w ω μ) := by
    intro k
    induction k with
    | zero =>
      intro v u4 u5 u6 hk hs
      have hb9 : -1 ≤ v ∧ v < 12 := by
        rcases hs with ⟨g, -⟩ | ⟨i, g, -, g2, -⟩ <;> omega
      refine go_iload_n (y := mX11_decisive) (pc := 9) dX11_decisive_9 rfl rfl ?_
      refine go_if_lt (y := mX11_decisive) (pc := 10) (tgt := 171) dX11_decisive_10 (by decide) (by omega) (fun h10 => ?_) (fun h10 => ?_)
      · skip
        refine go_iload_n (y := mX11_decisive) (pc := 171) dX11_decisive_171 rfl rfl ?_
        refine go_ireturn (y := mX11_decisive) (pc := 172) dX11_decisive_172 rfl ?_
        exact K _ (sel_u hs (ltk_sel S s q _).1) hb9
      · skip
        exact absurd h10 (by omega)
    | succ k ih =>
      intro v u4 u5 u6 hk hs
      obtain ⟨v1, v2, v3, v4, v5, v6, v7, v8⟩ := own_v hS hC hR hq (m := k) (by omega)
      have hv9 : v = -1 ∨ (0 ≤ v ∧ v < S 0 7) := by
        rcases hs with ⟨g, -⟩ | ⟨i, g, -, g2, -⟩ <;> omega
      have J165 : ∀ (v : Int) (u4 u5 u6 : Value), isSel (trT S s q) (fun m => S 2 m) k (S 0 7).toNat v → go z 3 0 0 mX11_decisive Q X 165 [.ref w, .int (iI (q : Nat)), .int (iI v), .int (iI (k : Nat)), u4, u5, u6] [] (ow w ω μ) := by
        intro v u4 u5 u6 hv
        refine go_iinc (y := mX11_decisive) (pc := 165) dX11_decisive_165 rfl (by decide) ?_
        refine go_goto (y := mX11_decisive) (pc := 168) (tgt := 9) dX11_decisive_168 (by decide) ?_
        have h := ih v u4 u5 u6 (by omega) hv
        rw [show (k : Int) - 1 = (k : Int) + -1 by omega] at h
        exact h
      have keep : ∀ (u4 u5 u6 : Value), (¬ trT S s q k ∨ ∃ i : Nat, v = i ∧ S 2 i < S 2 k) → go z 3 0 0 mX11_decisive Q X 163 [.ref w, .int (iI (q : Nat)), .int (iI v), .int (iI (k : Nat)), u4, u5, u6] [] (ow w ω μ) := by
        intro u4 u5 u6 hn
        refine go_iload_n (y := mX11_decisive) (pc := 163) dX11_decisive_163 rfl rfl ?_
        refine go_istore_n (y := mX11_decisive) (pc := 164) dX11_decisive_164 rfl (by decide) ?_
        exact J165 v _ _ _ (sel_d2 hs hn)
      have take : ∀ (u4 u5 u6 : Value), trT S s q k → (v = -1 ∨ ∀ i : Nat, v = i → S 2 k ≤ S 2 i) → go z 3 0 0 mX11_decisive Q X 159 [.ref w, .int (iI (q : Nat)), .int (iI v), .int (iI (k : Nat)), u4, u5, u6] [] (ow w ω μ) := by
        intro u4 u5 u6 ht hn
        refine go_iload_n (y := mX11_decisive) (pc := 159) dX11_decisive_159 rfl rfl ?_
        refine go_goto (y := mX11_decisive) (pc := 160) (tgt := 164) dX11_decisive_160 (by decide) ?_
        refine go_istore_n (y := mX11_decisive) (pc := 164) dX11_decisive_164 rfl (by decide) ?_
        exact J165 k _ _ _ (sel_d1 hs (by omega) ht hn)
      have J133 : ∀ (x y b : Int) (u6 : Value), (b = 0 ∨ b = 1) → (b = 1 ↔ trT S s q k) → go z 3 0 0 mX11_decisive Q X 133 [.ref w, .int (iI (q : Nat)), .int (iI v), .int (iI (k : Nat)), .int (iI x), .int (iI y), u6] [.int (iI b)] (ow w ω μ) := by
        intro x y b u6 hb hb2
        refine go_istore (y := mX11_decisive) (pc := 133) dX11_decisive_133 (by decide) ?_
        refine go_iload (y := mX11_decisive) (pc := 135) dX11_decisive_135 rfl ?_
        refine go_if_eq (y := mX11_decisive) (pc := 137) (tgt := 163) dX11_decisive_137 (by decide) (by omega) (fun h137 => ?_) (fun h137 => ?_)
        · skip
          exact keep _ _ _ (Or.inl (fun w9 => by have := hb2.mpr w9; omega))
        · skip
          have ht := hb2.mp (by omega)
          refine go_iload_n (y := mX11_decisive) (pc := 140) dX11_decisive_140 rfl rfl ?_
          refine go_if_lt (y := mX11_decisive) (pc := 141) (tgt := 159) dX11_decisive_141 (by decide) (by omega) (fun h141 => ?_) (fun h141 => ?_)
          · skip
            exact take _ _ _ ht (Or.inl (by omega))
          · skip
            obtain ⟨i, hi⟩ := Int.eq_ofNat_of_zero_le (show 0 ≤ v by omega)
            obtain ⟨i1, i2, i3, i4, i5, i6, i7, i8⟩ := own_v hS hC hR hq (m := i) (by omega)
            refine go_aload_n (y := mX11_decisive) (pc := 144) dX11_decisive_144 rfl rfl ?_
            refine go_getR (y := mX11_decisive) (pc := 145) dX11_decisive_145 fl_X11_7 (ow_sh hw 0 (by decide)) rfl (by omega) ?_
            refine go_iload_n (y := mX11_decisive) (pc := 148) dX11_decisive_148 rfl rfl ?_
            refine go_wial (y := mX11_decisive) (pc := 149) (r := 1) (k := k) dX11_decisive_149 hw (by decide) rfl hz rfl (by omega) (by decide) (fun r149 => ?_)
            refine go_top (b := S 2 k) (v3) (fun t149 => ?_)
            refine go_aload_n (y := mX11_decisive) (pc := 150) dX11_decisive_150 rfl rfl ?_
            refine go_getR (y := mX11_decisive) (pc := 151) dX11_decisive_151 fl_X11_7 (ow_sh hw 0 (by decide)) rfl (by omega) ?_
            refine go_iload_n (y := mX11_decisive) (pc := 154) dX11_decisive_154 rfl rfl ?_
            refine go_top (b := ((i : Nat) : Int)) (hi) (fun t154 => ?_)
            refine go_wial (y := mX11_decisive) (pc := 155) (r := 1) (k := i) dX11_decisive_155 hw (by decide) rfl hz rfl (by omega) (by decide) (fun r155 => ?_)
            refine go_top (b := S 2 i) (i3) (fun t155 => ?_)
            refine go_icmp_gt (y := mX11_decisive) (pc := 156) (tgt := 163) dX11_decisive_156 (by decide) (by omega) (by omega) (fun h156 => ?_) (fun h156 => ?_)
            · skip
              exact keep _ _ _ (Or.inr ⟨i, hi, h156⟩)
            · skip
              exact take _ _ _ ht (Or.inr (fun j hj => by have : j = i := by omega
                                                          subst this; exact h156))
      have J125 : ∀ (x y a b : Int) (u6 : Value), a = bI (0 < mgn S s q - 2 * vt s k q * S 2 k) → b = bI (0 < mgn S s q) → go z 3 0 0 mX11_decisive Q X 125 [.ref w, .int (iI (q : Nat)), .int (iI v), .int (iI (k : Nat)), .int (iI x), .int (iI y), u6] [.int (iI b), .int (iI a)] (ow w ω μ) := by
        intro x y a b u6 ha hb
        have ha2 := ha ▸ bI_01 (0 < mgn S s q - 2 * vt s k q * S 2 k)
        have hb2 := hb ▸ bI_01 (0 < mgn S s q)
        have hab := tr_iff ha hb
        refine go_icmp_eq (y := mX11_decisive) (pc := 125) (tgt := 132) dX11_decisive_125 (by decide) (by omega) (by omega) (fun h125 => ?_) (fun h125 => ?_)
        · skip
          refine go_iconst (y := mX11_decisive) (pc := 132) dX11_decisive_132 ?_
          exact J133 x y 0 u6 (by omega) ⟨fun w9 => absurd w9 (by decide), fun w9 => absurd w9 (hab.mp h125)⟩
        · skip
          refine go_iconst (y := mX11_decisive) (pc := 128) dX11_decisive_128 ?_
          refine go_goto (y := mX11_decisive) (pc := 129) (tgt := 133) dX11_decisive_129 (by decide) ?_
          refine J133 x y 1 u6 (by omega) ⟨fun _ => ?_, fun _ => rfl⟩
          by_cases g : trT S s q k
          · exact g
          · exact absurd (hab.mpr g) h125
      have J105 : ∀ (x y a : Int) (u6 : Value), a = bI (0 < mgn S s q - 2 * vt s k q * S 2 k) → go z 3 0 0 mX11_decisive Q X 105 [.ref w, .int (iI (q : Nat)), .int (iI v), .int (iI (k : Nat)), .int (iI x), .int (iI y), u6] [.int (iI a)] (ow w ω μ) := by
        intro x y a u6 ha
        refine go_aload_n (y := mX11_decisive) (pc := 105) dX11_decisive_105 rfl rfl ?_
        refine go_iload_n (y := mX11_decisive) (pc := 106) dX11_decisive_106 rfl rfl ?_
        refine go_iconst (y := mX11_decisive) (pc := 107) dX11_decisive_107 ?_
        refine go_callV2 (y := mX11_decisive) (pc := 108) (y' := mX11_side) (kc2 := 0) (ks2 := 0) dX11_decisive_108 ml_X11_152 ok_X11_side (ow_sh hw 0 (by decide)) ⟨_, _, rfl⟩ (by omega) ⟨rfl, rfl⟩ ⟨by decide, Nat.le_refl _, by decide, by decide, by decide⟩ (Nat.le_of_ble_eq_true rfl) rfl (o_side hw hz hS hC hR (q := q) (by omega) (by omega) (fun v108 e108 b108 => ?_))
        refine go_aload_n (y := mX11_decisive) (pc := 111) dX11_decisive_111 rfl rfl ?_
        refine go_iload_n (y := mX11_decisive) (pc := 112) dX11_decisive_112 rfl rfl ?_
        refine go_iconst (y := mX11_decisive) (pc := 113) dX11_decisive_113 ?_
        refine go_callV2 (y := mX11_decisive) (pc := 114) (y' := mX11_side) (kc2 := 0) (ks2 := 0) dX11_decisive_114 ml_X11_152 ok_X11_side (ow_sh hw 0 (by decide)) ⟨_, _, rfl⟩ (by omega) ⟨rfl, rfl⟩ ⟨by decide, Nat.le_refl _, by decide, by decide, by decide⟩ (Nat.le_of_ble_eq_true rfl) rfl (o_side hw hz hS hC hR (q := q) (by omega) (by omega) (fun v114 e114 b114 => ?_))
        refine go_icmp_le (y := mX11_decisive) (pc := 117) (tgt := 124) dX11_decisive_117 (by decide) (by omega) (by omega) (fun h117 => ?_) (fun h117 => ?_)
        · skip
          refine go_iconst (y := mX11_decisive) (pc := 124) dX11_decisive_124 ?_
          exact J125 x y a 0 u6 ha (bI_f (by unfold mgn; omega)).symm
        · skip
          refine go_iconst (y := mX11_decisive) (pc := 120) dX11_decisive_120 ?_
          refine go_goto (y := mX11_decisive) (pc := 121) (tgt := 125) dX11_decisive_121 (by decide) ?_
          exact J125 x y a 1 u6 ha (bI_t (by unfold mgn; omega)).symm
      have J93 : ∀ (x y : Int) (u6 : Value), (vt s k q = 1 ∨ vt s k q = -1) → x = wvt S s q 1 - vt s k q * S 2 k → y = wvt S s q (-1) + vt s k q * S 2 k → (-9 ≤ x ∧ x ≤ 117) → (-9 ≤ y ∧ y ≤ 117) → go z 3 0 0 mX11_decisive Q X 93 [.ref w, .int (iI (q : Nat)), .int (iI v), .int (iI (k : Nat)), .int (iI x), .int (iI y), u6] [] (ow w ω μ) := by
        intro x y u6 hv3 hx hy bx b_y
        have e : mgn S s q - 2 * vt s k q * S 2 k = x - y := by
          unfold mgn
          rcases hv3 with g | g <;> rw [g] at hx hy ⊢ <;> omega
        refine go_iload (y := mX11_decisive) (pc := 93) dX11_decisive_93 rfl ?_
        refine go_iload (y := mX11_decisive) (pc := 95) dX11_decisive_95 rfl ?_
        refine go_icmp_le (y := mX11_decisive) (pc := 97) (tgt := 104) dX11_decisive_97 (by decide) (by omega) (by omega) (fun h97 => ?_) (fun h97 => ?_)
        · skip
          refine go_iconst (y := mX11_decisive) (pc := 104) dX11_decisive_104 ?_
          exact J105 x y 0 u6 (bI_f (by rw [e]; omega)).symm
        · skip
          refine go_iconst (y := mX11_decisive) (pc := 100) dX11_decisive_100 ?_
          refine go_goto (y := mX11_decisive) (pc := 101) (tgt := 105) dX11_decisive_101 (by decide) ?_
          exact J105 x y 1 u6 (bI_t (by rw [e]; omega)).symm
      have J90 : ∀ (x a b : Int) (u5 u6 : Value), (vt s k q = 1 ∨ vt s k q = -1) → x = wvt S s q 1 - vt s k q * S 2 k → (-9 ≤ x ∧ x ≤ 117) → a = wvt S s q (-1) → (0 ≤ a ∧ a ≤ 108) → b = vt s k q * S 2 k → go z 3 0 0 mX11_decisive Q X 90 [.ref w, .int (iI (q : Nat)), .int (iI v), .int (iI (k : Nat)), .int (iI x), u5, u6] [.int (iI b), .int (iI a)] (ow w ω μ) := by
        intro x a b u5 u6 hv3 hx bx ha ba hb
        have hb2 : -9 ≤ b ∧ b ≤ 9 := by rcases hv3 with g | g <;> rw [g] at hb <;> omega
        refine go_iadd (y := mX11_decisive) (pc := 90) dX11_decisive_90 ?_
        refine go_istore (y := mX11_decisive) (pc := 91) dX11_decisive_91 (by decide) ?_
        exact J93 x (a + b) u6 hv3 hx (by rw [ha, hb]) bx (by omega)
      have J56 : ∀ (a b : Int) (u4 u5 u6 : Value), (vt s k q = 1 ∨ vt s k q = -1) → a = wvt S s q 1 → (0 ≤ a ∧ a ≤ 108) → b = vt s k q * S 2 k → go z 3 0 0 mX11_decisive Q X 56 [.ref w, .int (iI (q : Nat)), .int (iI v), .int (iI (k : Nat)), u4, u5, u6] [.int (iI b), .int (iI a)] (ow w ω μ) := by
        intro a b u4 u5 u6 hv3 ha ba hb
        have hb2 : -9 ≤ b ∧ b ≤ 9 := by rcases hv3 with g | g <;> rw [g] at hb <;> omega
        refine go_isub (y := mX11_decisive) (pc := 56) dX11_decisive_56 ?_
        refine go_istore (y := mX11_decisive) (pc := 57) dX11_decisive_57 (by decide) ?_
        refine go_aload_n (y := mX11_decisive) (pc := 59) dX11_decisive_59 rfl rfl ?_
        refine go_iload_n (y := mX11_decisive) (pc := 60) dX11_decisive_60 rfl rfl ?_
        refine go_iconst (y := mX11_decisive) (pc := 61) dX11_decisive_61 ?_
        refine go_callV2 (y := mX11_decisive) (pc := 62) (y' := mX11_side) (kc2 := 0) (ks2 := 0) dX11_decisive_62 ml_X11_152 ok_X11_side (ow_sh hw 0 (by decide)) ⟨_, _, rfl⟩ (by omega) ⟨rfl, rfl⟩ ⟨by decide, Nat.le_refl _, by decide, by decide, by decide⟩ (Nat.le_of_ble_eq_true rfl) rfl (o_side hw hz hS hC hR (q := q) (by omega) (by omega) (fun v62 e62 b62 => ?_))
        refine go_aload_n (y := mX11_decisive) (pc := 65) dX11_decisive_65 rfl rfl ?_
        refine go_iload_n (y := mX11_decisive) (pc := 66) dX11_decisive_66 rfl rfl ?_
        refine go_iload_n (y := mX11_decisive) (pc := 67) dX11_decisive_67 rfl rfl ?_
        refine go_callV2 (y := mX11_decisive) (pc := 68) (y' := mX11_voice) (kc2 := 0) (ks2 := 0) dX11_decisive_68 ml_X11_143 ok_X11_voice (ow_sh hw 0 (by decide)) ⟨_, _, rfl⟩ (by omega) ⟨rfl, rfl⟩ ⟨by decide, Nat.le_refl _, by decide, by decide, by decide⟩ (Nat.le_of_ble_eq_true rfl) rfl (o_voice hw hz (m := k) (q := q) v1 v2 v4 v5 v6 (fun v68 e68 b68 => ?_))
        refine go_if_le (y := mX11_decisive) (pc := 71) (tgt := 83) dX11_decisive_71 (by decide) (by omega) (fun h71 => ?_) (fun h71 => ?_)
        · skip
          refine go_aload_n (y := mX11_decisive) (pc := 83) dX11_decisive_83 rfl rfl ?_
          refine go_getR (y := mX11_decisive) (pc := 84) dX11_decisive_84 fl_X11_7 (ow_sh hw 0 (by decide)) rfl (by omega) ?_
          refine go_iload_n (y := mX11_decisive) (pc := 87) dX11_decisive_87 rfl rfl ?_
          refine go_wial (y := mX11_decisive) (pc := 88) (r := 1) (k := k) dX11_decisive_88 hw (by decide) rfl hz rfl (by omega) (by decide) (fun r88 => ?_)
          refine go_top (b := S 2 k) (v3) (fun t88 => ?_)
          refine go_ineg (y := mX11_decisive) (pc := 89) dX11_decisive_89 ?_
          exact J90 (a - b) v62 (-(S 2 k)) _ u6 hv3 (by rw [ha, hb]) (by omega) e62 b62 (by rcases hv3 with g | g <;> rw [g] <;> omega)
        · skip
          refine go_aload_n (y := mX11_decisive) (pc := 74) dX11_decisive_74 rfl rfl ?_
          refine go_getR (y := mX11_decisive) (pc := 75) dX11_decisive_75 fl_X11_7 (ow_sh hw 0 (by decide)) rfl (by omega) ?_
          refine go_iload_n (y := mX11_decisive) (pc := 78) dX11_decisive_78 rfl rfl ?_
          refine go_wial (y := mX11_decisive) (pc := 79) (r := 1) (k := k) dX11_decisive_79 hw (by decide) rfl hz rfl (by omega) (by decide) (fun r79 => ?_)
          refine go_top (b := S 2 k) (v3) (fun t79 => ?_)
          refine go_goto (y := mX11_decisive) (pc := 80) (tgt := 90) dX11_decisive_80 (by decide) ?_
          exact J90 (a - b) v62 (S 2 k) _ u6 hv3 (by rw [ha, hb]) (by omega) e62 b62 (by rcases hv3 with g | g <;> rw [g] <;> omega)
      refine go_loc (i := 3) (show ((k + 1 : Nat) : Int) - 1 = ((k : Nat) : Int) by omega) rfl ?_
      refine go_iload_n (y := mX11_decisive) (pc := 9) dX11_decisive_9 rfl rfl ?_
      refine go_if_lt (y := mX11_decisive) (pc := 10) (tgt := 171) dX11_decisive_10 (by decide) (by omega) (fun h10 => ?_) (fun h10 => ?_)
      · skip
        exact absurd h10 (by omega)
      · skip
        refine go_aload_n (y := mX11_decisive) (pc := 13) dX11_decisive_13 rfl rfl ?_
        refine go_iload_n (y := mX11_decisive) (pc := 14) dX11_decisive_14 rfl rfl ?_
        refine go_iload_n (y := mX11_decisive) (pc := 15) dX11_decisive_15 rfl rfl ?_
        refine go_callV2 (y := mX11_decisive) (pc := 16) (y' := mX11_voice) (kc2 := 0) (ks2 := 0) dX11_decisive_16 ml_X11_143 ok_X11_voice (ow_sh hw 0 (by decide)) ⟨_, _, rfl⟩ (by omega) ⟨rfl, rfl⟩ ⟨by decide, Nat.le_refl _, by decide, by decide, by decide⟩ (Nat.le_of_ble_eq_true rfl) rfl (o_voice hw hz (m := k) (q := q) v1 v2 v4 v5 v6 (fun v16 e16 b16 => ?_))
        refine go_if_ne (y := mX11_decisive) (pc := 19) (tgt := 25) dX11_decisive_19 (by decide) (by omega) (fun h19 => ?_) (fun h19 => ?_)
        · skip
          refine go_aload_n (y := mX11_decisive) (pc := 25) dX11_decisive_25 rfl rfl ?_
          refine go_iload_n (y := mX11_decisive) (pc := 26) dX11_decisive_26 rfl rfl ?_
          refine go_iconst (y := mX11_decisive) (pc := 27) dX11_decisive_27 ?_
          refine go_callV2 (y := mX11_decisive) (pc := 28) (y' := mX11_side) (kc2 := 0) (ks2 := 0) dX11_decisive_28 ml_X11_152 ok_X11_side (ow_sh hw 0 (by decide)) ⟨_, _, rfl⟩ (by omega) ⟨rfl, rfl⟩ ⟨by decide, Nat.le_refl _, by decide, by decide, by decide⟩ (Nat.le_of_ble_eq_true rfl) rfl (o_side hw hz hS hC hR (q := q) (by omega) (by omega) (fun v28 e28 b28 => ?_))
          refine go_aload_n (y := mX11_decisive) (pc := 31) dX11_decisive_31 rfl rfl ?_
          refine go_iload_n (y := mX11_decisive) (pc := 32) dX11_decisive_32 rfl rfl ?_
          refine go_iload_n (y := mX11_decisive) (pc := 33) dX11_decisive_33 rfl rfl ?_
          refine go_callV2 (y := mX11_decisive) (pc := 34) (y' := mX11_voice) (kc2 := 0) (ks2 := 0) dX11_decisive_34 ml_X11_143 ok_X11_voice (ow_sh hw 0 (by decide)) ⟨_, _, rfl⟩ (by omega) ⟨rfl, rfl⟩ ⟨by decide, Nat.le_refl _, by decide, by decide, by decide⟩ (Nat.le_of_ble_eq_true rfl) rfl (o_voice hw hz (m := k) (q := q) v1 v2 v4 v5 v6 (fun v34 e34 b34 => ?_))
          refine go_if_le (y := mX11_decisive) (pc := 37) (tgt := 49) dX11_decisive_37 (by decide) (by omega) (fun h37 => ?_) (fun h37 => ?_)
          · skip
            refine go_aload_n (y := mX11_decisive) (pc := 49) dX11_decisive_49 rfl rfl ?_
            refine go_getR (y := mX11_decisive) (pc := 50) dX11_decisive_50 fl_X11_7 (ow_sh hw 0 (by decide)) rfl (by omega) ?_
            refine go_iload_n (y := mX11_decisive) (pc := 53) dX11_decisive_53 rfl rfl ?_
            refine go_wial (y := mX11_decisive) (pc := 54) (r := 1) (k := k) dX11_decisive_54 hw (by decide) rfl hz rfl (by omega) (by decide) (fun r54 => ?_)
            refine go_top (b := S 2 k) (v3) (fun t54 => ?_)
            refine go_ineg (y := mX11_decisive) (pc := 55) dX11_decisive_55 ?_
            exact J56 v28 (-(S 2 k)) _ _ _ (by omega) e28 b28 (by rw [show vt s k q = -1 by omega]; omega)
          · skip
            refine go_aload_n (y := mX11_decisive) (pc := 40) dX11_decisive_40 rfl rfl ?_
            refine go_getR (y := mX11_decisive) (pc := 41) dX11_decisive_41 fl_X11_7 (ow_sh hw 0 (by decide)) rfl (by omega) ?_
            refine go_iload_n (y := mX11_decisive) (pc := 44) dX11_decisive_44 rfl rfl ?_
            refine go_wial (y := mX11_decisive) (pc := 45) (r := 1) (k := k) dX11_decisive_45 hw (by decide) rfl hz rfl (by omega) (by decide) (fun r45 => ?_)
            refine go_top (b := S 2 k) (v3) (fun t45 => ?_)
            refine go_goto (y := mX11_decisive) (pc := 46) (tgt := 56) dX11_decisive_46 (by decide) ?_
            exact J56 v28 (S 2 k) _ _ _ (by omega) e28 b28 (by rw [show vt s k q = 1 by omega]; omega)
        · skip
          refine go_goto (y := mX11_decisive) (pc := 22) (tgt := 165) dX11_decisive_22 (by decide) ?_
          refine J165 v _ _ _ (sel_d2 hs (Or.inl ?_))
          unfold trT
          rw [show vt s k q = 0 by omega]
          simp
  refine go_iconst (y := mX11_decisive) (pc := 0) dX11_decisive_0 ?_
  refine go_istore_n (y := mX11_decisive) (pc := 1) dX11_decisive_1 rfl (by decide) ?_
  refine go_aload_n (y := mX11_decisive) (pc := 2) dX11_decisive_2 rfl rfl ?_
  refine go_wget (y := mX11_decisive) (pc := 3) (r := 0) dX11_decisive_3 fl_X11_85 hw (by decide) rfl rfl hz (fun r3 => ?_)
  refine go_top (b := S 0 7) (e8) (fun t3 => ?_)
  refine go_iconst (y := mX11_decisive) (pc := 6) dX11_decisive_6 ?_
  refine go_isub (y := mX11_decisive) (pc := 7) dX11_decisive_7 ?_
  refine go_istore_n (y := mX11_decisive) (pc := 8) dX11_decisive_8 rfl (by decide) ?_
  have h := loop (S 0 7).toNat (-1) .null .null .null (by omega) sel_e
  rw [show (((S 0 7).toNat : Nat) : Int) - 1 = S 0 7 - 1 by omega] at h
  exact h
