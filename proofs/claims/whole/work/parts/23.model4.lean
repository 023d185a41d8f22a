/-! THE MODEL: minutes, votes -/
theorem dry_k_o {s : Mem} {k r j : Nat} (h : r ≠ 8) : dry_k s k r j = s r j := if_neg (fun w => h w.1)
theorem dry_k_8 {s : Mem} {k : Nat} : dry_k s k 8 k = s 8 k := if_neg (by omega)
theorem dry_k_s {s : Mem} {k : Nat} (h : s 7 k = 0) (h0 : 0 ≤ s 8 k) : dry_k s (k + 1) = wr (dry_k s k) 8 k (max 0 (s 8 k - 1)) := by
  funext r j
  by_cases g : r = 8 ∧ j = k
  · obtain ⟨g1, g2⟩ := g
    subst g1 g2
    rw [wr_s]
    unfold dry_k
    by_cases g1 : s 8 j > 0
    · rw [if_pos ⟨rfl, by omega, h, g1⟩]; omega
    · rw [if_neg (by omega)]; omega
  · rw [wr_n g]
    unfold dry_k
    by_cases c : r = 8 ∧ j < k ∧ s 7 j = 0 ∧ s 8 j > 0
    · rw [if_pos c, if_pos ⟨c.1, by omega, c.2.2⟩]
    · rw [if_neg c, if_neg]
      intro w
      apply c
      refine ⟨w.1, ?_, w.2.2⟩
      by_cases g3 : j = k
      · exact absurd ⟨w.1, g3⟩ g
      · omega
theorem dry_k_n {s : Mem} {k : Nat} (h : s 7 k ≠ 0) : dry_k s (k + 1) = dry_k s k := by
  funext r j
  unfold dry_k
  by_cases c : r = 8 ∧ j < k ∧ s 7 j = 0 ∧ s 8 j > 0
  · rw [if_pos c, if_pos ⟨c.1, by omega, c.2.2⟩]
  · rw [if_neg c, if_neg]
    intro w
    apply c
    refine ⟨w.1, ?_, w.2.2⟩
    by_cases g : j = k
    · subst g; exact absurd w.2.2.1 h
    · omega
theorem dry_0 (s : Mem) : dry_k s 0 = s := by
  funext r j
  unfold dry_k
  rw [if_neg (by omega)]
section MReads4
variable {S s σ μ : Mem} {ν : Nat → Int}
set_option maxRecDepth 8000 in
set_option maxHeartbeats 4000000 in
theorem m_minutePasses (hS : wfS S) (hC : wfC S s) (hr : rel S s ν) {Q : Option Value → Mem → Prop} {X : String → Mem → Prop} (K : ∀ ν', rel S (pmn S s) ν' → iI (ν' 17) = iI (ν 17 + pme S s) → Q none (md σ ν' μ)) : mt 289 5 0 0 mX11_minutePasses [.ref 276] Q X (md σ ν μ) := by
  show go 289 5 0 0 mX11_minutePasses Q X 0 [.ref 276, .null] [] _
  obtain ⟨n1, n12, c1, c4⟩ := wf_n hS
  obtain ⟨q0, q16, r0, r12⟩ := wf_r hS hC
  have d2 := hS.2.2.2.2.2.2.2.2.1
  have d30 := hS.2.2.2.2.2.2.2.2.2.1
  have hC1 := wf_pm1 hC
  have hC2 := (wf_pek hS hC1 (S 0 0).toNat (by omega)).1
  unfold pmn pme at K
  have loop3 : ∀ (n k : Nat) (ν1 : Nat → Int), (k : Int) + n = S 0 0 → rel S (pfk S (pek S (pm1 S s) (S 0 0).toNat).1 k) ν1 → iI (ν1 17) = iI (ν 17 + (pek S (pm1 S s) (S 0 0).toNat).2) → go 289 5 0 0 mX11_minutePasses Q X 134 [.ref 276, .int (iI (k : Nat))] [] (md σ ν1 μ) := by
    intro n
    induction n using Nat.strongRecOn with
    | _ n ih =>
      intro k ν1 hk hr1 h17
      have ih' := ih (n - 1)
      have hk2 := wf_pfk hS hC2 k (by omega)
      refine go_iload_n (y := mX11_minutePasses) (pc := 134) dX11_minutePasses_134 rfl rfl ?_
      refine go_aload_n (y := mX11_minutePasses) (pc := 135) dX11_minutePasses_135 rfl rfl ?_
      refine go_mref (y := mX11_minutePasses) (pc := 136) dX11_minutePasses_136 fl_X11_7 rfl rfl (by decide) ?_
      refine go_iconst (y := mX11_minutePasses) (pc := 139) dX11_minutePasses_139 ?_
      refine go_nial (y := mX11_minutePasses) (pc := 140) (k := 0) dX11_minutePasses_140 (by decide) rfl (by omega) (fun r140 => ?_)
      refine go_top (b := S 0 0) (rs0 hr1) (fun t140 => ?_)
      refine go_icmp_ge (y := mX11_minutePasses) (pc := 141) (tgt := 165) dX11_minutePasses_141 (by decide) (by omega) (by omega) (fun h141 => ?_) (fun h141 => ?_)
      · skip
        refine go_return (y := mX11_minutePasses) (pc := 165) dX11_minutePasses_165 rfl ?_
        have e : k = (S 0 0).toNat := by omega
        subst e
        exact K ν1 hr1 h17
      · skip
        refine go_aload_n (y := mX11_minutePasses) (pc := 144) dX11_minutePasses_144 rfl rfl ?_
        refine go_iload_n (y := mX11_minutePasses) (pc := 145) dX11_minutePasses_145 rfl rfl ?_
        refine go_iconst (y := mX11_minutePasses) (pc := 146) dX11_minutePasses_146 ?_
        refine go_callV2 (y := mX11_minutePasses) (pc := 147) (y' := mX11_ofC) (kc2 := 0) (ks2 := 0) dX11_minutePasses_147 ml_X11_94 ok_X11_ofC (show shp 276 = _ from rfl) ⟨_, _, rfl⟩ (by decide) ⟨rfl, rfl⟩ (by decide) (Nat.le_of_ble_eq_true rfl) rfl (m_ofC (h := k) (w := 0) (by omega) (by decide) (fun v147 e147 r147 => ?_))
        refine go_top (b := pfk S (pek S (pm1 S s) (S 0 0).toNat).1 k 16 k) (e147.trans (rhB hr1 (by omega))) (fun t147 => ?_)
        refine go_iconst (y := mX11_minutePasses) (pc := 150) dX11_minutePasses_150 ?_
        refine go_icmp_ne (y := mX11_minutePasses) (pc := 151) (tgt := 159) dX11_minutePasses_151 (by decide) (by omega) (by omega) (fun h151 => ?_) (fun h151 => ?_)
        · skip
          refine go_iinc (y := mX11_minutePasses) (pc := 159) dX11_minutePasses_159 rfl (by decide) ?_
          refine go_goto (y := mX11_minutePasses) (pc := 162) (tgt := 134) dX11_minutePasses_162 (by decide) ?_
          refine ih' (by omega) (k + 1) ν1 (by omega) ?_ h17
          rw [pfk, if_neg (fun w => h151 w.1)]
          exact hr1
        · skip
          refine go_aload_n (y := mX11_minutePasses) (pc := 154) dX11_minutePasses_154 rfl rfl ?_
          refine go_iload_n (y := mX11_minutePasses) (pc := 155) dX11_minutePasses_155 rfl rfl ?_
          refine go_callV1 (y := mX11_minutePasses) (pc := 156) (y' := mX11_fills) (kc2 := 0) (ks2 := 0) dX11_minutePasses_156 ml_X11_147 ok_X11_fills (show shp 276 = _ from rfl) ⟨_, _, rfl⟩ (by decide) rfl (by decide) (Nat.le_of_ble_eq_true rfl) rfl (m_fills (h := k) (by omega) hS hk2 hr1 h151 (fun ν156 e156 f156 => ?_))
          refine go_iinc (y := mX11_minutePasses) (pc := 159) dX11_minutePasses_159 rfl (by decide) ?_
          refine go_goto (y := mX11_minutePasses) (pc := 162) (tgt := 134) dX11_minutePasses_162 (by decide) ?_
          refine ih' (by omega) (k + 1) ν156 (by omega) ?_ (by rw [f156]; exact h17)
          rw [pfk]
          by_cases g : fsl S (pfk S (pek S (pm1 S s) (S 0 0).toNat).1 k) (pfk S (pek S (pm1 S s) (S 0 0).toNat).1 k 0 6) ≠ -1
          · rw [if_pos g] at e156
            rw [if_pos ⟨h151, g⟩]
            exact e156
          · rw [if_neg g] at e156
            rw [if_neg (fun w => g w.2)]
            exact e156
  have loop2 : ∀ (n k : Nat) (ν1 : Nat → Int), (k : Int) + n = S 0 0 → rel S (pek S (pm1 S s) k).1 ν1 → iI (ν1 17) = iI (ν 17 + (pek S (pm1 S s) k).2) → go 289 5 0 0 mX11_minutePasses Q X 75 [.ref 276, .int (iI (k : Nat))] [] (md σ ν1 μ) := by
    intro n
    induction n using Nat.strongRecOn with
    | _ n ih =>
      intro k ν1 hk hr1 h17
      have ih' := ih (n - 1)
      have hw := wf_pek hS hC1 k (by omega)
      have hn := wf_r hS hw.1
      refine go_iload_n (y := mX11_minutePasses) (pc := 75) dX11_minutePasses_75 rfl rfl ?_
      refine go_aload_n (y := mX11_minutePasses) (pc := 76) dX11_minutePasses_76 rfl rfl ?_
      refine go_mref (y := mX11_minutePasses) (pc := 77) dX11_minutePasses_77 fl_X11_7 rfl rfl (by decide) ?_
      refine go_iconst (y := mX11_minutePasses) (pc := 80) dX11_minutePasses_80 ?_
      refine go_nial (y := mX11_minutePasses) (pc := 81) (k := 0) dX11_minutePasses_81 (by decide) rfl (by omega) (fun r81 => ?_)
      refine go_top (b := S 0 0) (rs0 hr1) (fun t81 => ?_)
      refine go_icmp_ge (y := mX11_minutePasses) (pc := 82) (tgt := 132) dX11_minutePasses_82 (by decide) (by omega) (by omega) (fun h82 => ?_) (fun h82 => ?_)
      · skip
        refine go_iconst (y := mX11_minutePasses) (pc := 132) dX11_minutePasses_132 ?_
        refine go_istore_n (y := mX11_minutePasses) (pc := 133) dX11_minutePasses_133 rfl (by decide) ?_
        have e : k = (S 0 0).toNat := by omega
        subst e
        exact loop3 (S 0 0).toNat 0 ν1 (by omega) hr1 h17
      · skip
        have hX := hw.1.2.2.2.2.2 k (by omega)
        refine go_aload_n (y := mX11_minutePasses) (pc := 85) dX11_minutePasses_85 rfl rfl ?_
        refine go_iload_n (y := mX11_minutePasses) (pc := 86) dX11_minutePasses_86 rfl rfl ?_
        refine go_iconst (y := mX11_minutePasses) (pc := 87) dX11_minutePasses_87 ?_
        refine go_callV2 (y := mX11_minutePasses) (pc := 88) (y' := mX11_ofC) (kc2 := 0) (ks2 := 0) dX11_minutePasses_88 ml_X11_94 ok_X11_ofC (show shp 276 = _ from rfl) ⟨_, _, rfl⟩ (by decide) ⟨rfl, rfl⟩ (by decide) (Nat.le_of_ble_eq_true rfl) rfl (m_ofC (h := k) (w := 0) (by omega) (by decide) (fun v88 e88 r88 => ?_))
        refine go_top (b := (pek S (pm1 S s) k).1 16 k) (e88.trans (rhB hr1 (by omega))) (fun t88 => ?_)
        refine go_iconst (y := mX11_minutePasses) (pc := 91) dX11_minutePasses_91 ?_
        refine go_icmp_ne (y := mX11_minutePasses) (pc := 92) (tgt := 98) dX11_minutePasses_92 (by decide) (by omega) (by omega) (fun h92 => ?_) (fun h92 => ?_)
        · skip
          have hwp : wp ((pek S (pm1 S s) k).1 19 k - 1) = (pek S (pm1 S s) k).1 19 k - 1 := wp_of ⟨by omega, by omega⟩
          have x1 := rel_rem (h := k) (v := (pek S (pm1 S s) k).1 19 k - 1) (by omega) hr1 n12 c4 hn.2.1 hn.2.2.2
          refine go_aload_n (y := mX11_minutePasses) (pc := 98) dX11_minutePasses_98 rfl rfl ?_
          refine go_iload_n (y := mX11_minutePasses) (pc := 99) dX11_minutePasses_99 rfl rfl ?_
          refine go_iconst (y := mX11_minutePasses) (pc := 100) dX11_minutePasses_100 ?_
          refine go_aload_n (y := mX11_minutePasses) (pc := 101) dX11_minutePasses_101 rfl rfl ?_
          refine go_iload_n (y := mX11_minutePasses) (pc := 102) dX11_minutePasses_102 rfl rfl ?_
          refine go_iconst (y := mX11_minutePasses) (pc := 103) dX11_minutePasses_103 ?_
          refine go_callV2 (y := mX11_minutePasses) (pc := 104) (y' := mX11_ofC) (kc2 := 0) (ks2 := 0) dX11_minutePasses_104 ml_X11_94 ok_X11_ofC (show shp 276 = _ from rfl) ⟨_, _, rfl⟩ (by decide) ⟨rfl, rfl⟩ (by decide) (Nat.le_of_ble_eq_true rfl) rfl (m_ofC (h := k) (w := 3) (by omega) (by decide) (fun v104 e104 r104 => ?_))
          refine go_top (b := (pek S (pm1 S s) k).1 19 k) (e104.trans (rhR hr1 (by omega) h92)) (fun t104 => ?_)
          refine go_iconst (y := mX11_minutePasses) (pc := 107) dX11_minutePasses_107 ?_
          refine go_isub (y := mX11_minutePasses) (pc := 108) dX11_minutePasses_108 ?_
          refine go_callV3 (y := mX11_minutePasses) (pc := 109) (y' := mX11_putC) (kc2 := 0) (ks2 := 0) dX11_minutePasses_109 ml_X11_79 ok_X11_putC (show shp 276 = _ from rfl) ⟨_, _, rfl⟩ (by decide) ⟨rfl, rfl, rfl⟩ (by decide) (Nat.le_of_ble_eq_true rfl) rfl (m_putC (h := k) (w := 3) (by omega) (by decide) (by omega) ?_)
          refine go_aload_n (y := mX11_minutePasses) (pc := 112) dX11_minutePasses_112 rfl rfl ?_
          refine go_iload_n (y := mX11_minutePasses) (pc := 113) dX11_minutePasses_113 rfl rfl ?_
          refine go_iconst (y := mX11_minutePasses) (pc := 114) dX11_minutePasses_114 ?_
          refine go_callV2 (y := mX11_minutePasses) (pc := 115) (y' := mX11_ofC) (kc2 := 0) (ks2 := 0) dX11_minutePasses_115 ml_X11_94 ok_X11_ofC (show shp 276 = _ from rfl) ⟨_, _, rfl⟩ (by decide) ⟨rfl, rfl⟩ (by decide) (Nat.le_of_ble_eq_true rfl) rfl (m_ofC (h := k) (w := 3) (by omega) (by decide) (fun v115 e115 r115 => ?_))
          refine go_top (b := (pek S (pm1 S s) k).1 19 k - 1) (e115.trans wv_s) (fun t115 => ?_)
          refine go_if_ne (y := mX11_minutePasses) (pc := 118) (tgt := 126) dX11_minutePasses_118 (by decide) (by omega) (fun h118 => ?_) (fun h118 => ?_)
          · skip
            refine go_iinc (y := mX11_minutePasses) (pc := 126) dX11_minutePasses_126 rfl (by decide) ?_
            refine go_goto (y := mX11_minutePasses) (pc := 129) (tgt := 75) dX11_minutePasses_129 (by decide) ?_
            refine ih' (by omega) (k + 1) _ (by omega) ?_ ?_
            · rw [pek, if_neg h92, hwp, if_neg h118]; exact x1
            · rw [pek, if_neg h92, hwp, if_neg h118, wv_n (by omega)]; exact h17
          · skip
            obtain ⟨sp, hsp⟩ := Int.eq_ofNat_of_zero_le (show 0 ≤ (pek S (pm1 S s) k).1 16 k by omega)
            obtain ⟨q, hq⟩ := Int.eq_ofNat_of_zero_le (show 0 ≤ (pek S (pm1 S s) k).1 17 k by omega)
            have hqc := hw.1.2.2.1 q (by omega)
            refine go_aload_n (y := mX11_minutePasses) (pc := 121) dX11_minutePasses_121 rfl rfl ?_
            refine go_iload_n (y := mX11_minutePasses) (pc := 122) dX11_minutePasses_122 rfl rfl ?_
            refine go_callV1 (y := mX11_minutePasses) (pc := 123) (y' := mX11_ends) (kc2 := 0) (ks2 := 0) dX11_minutePasses_123 ml_X11_144 ok_X11_ends (show shp 276 = _ from rfl) ⟨_, _, rfl⟩ (by decide) rfl (by decide) (Nat.le_of_ble_eq_true rfl) rfl (m_ends (h := k) (sp := sp) (q := q) (by omega) hS x1 (by rw [wr_na (by decide)]; exact hn.2.1) (by rw [wr_na (by decide)]; exact hn.2.2.2) ((wr_na (by decide)).trans hsp) (by omega) ((wr_na (by decide)).trans hq) (by rw [wr_na (by decide)]; omega) (by rw [wr_na (by decide)]; omega) (by rw [wr_na (by decide)]; omega) (by rw [wr_na (by decide)]; exact ⟨hqc.2.2.2.2.1, hqc.2.2.2.2.2.1⟩) (fun m hm => by unfold ln; rw [wr_na (by decide)]; exact hqc.2.2.2.2.2.2.2.2 m hm) (fun ν123 e123 f123 => ?_))
            refine go_iinc (y := mX11_minutePasses) (pc := 126) dX11_minutePasses_126 rfl (by decide) ?_
            refine go_goto (y := mX11_minutePasses) (pc := 129) (tgt := 75) dX11_minutePasses_129 (by decide) ?_
            refine ih' (by omega) (k + 1) ν123 (by omega) ?_ ?_
            · rw [pek, if_neg h92, hwp, if_pos h118]; exact e123
            · rw [pek, if_neg h92, hwp, if_pos h118, f123, iI_wp, wv_n (by omega), ← iI_add, h17, iI_add]
              show iI _ = iI (ν 17 + ((pek S (pm1 S s) k).2 + 1))
              congr 1; omega
        · skip
          refine go_goto (y := mX11_minutePasses) (pc := 95) (tgt := 126) dX11_minutePasses_95 (by decide) ?_
          refine go_iinc (y := mX11_minutePasses) (pc := 126) dX11_minutePasses_126 rfl (by decide) ?_
          refine go_goto (y := mX11_minutePasses) (pc := 129) (tgt := 75) dX11_minutePasses_129 (by decide) ?_
          refine ih' (by omega) (k + 1) ν1 (by omega) ?_ ?_
          · rw [pek, if_pos h92]; exact hr1
          · rw [pek, if_pos h92]; exact h17
  have x0 : rel S (wr s 0 5 (wp (s 0 5 + 1))) (wv ν 7 (wp (s 0 5 + 1))) := rel_min hr n12 c4 q16 r12
  have loop1 : ∀ (n k : Nat) (ν1 : Nat → Int), (k : Int) + n = s 5 0 → rel S (if (wp (s 0 5 + 1)).tmod (S 0 4) = 0 then dry_k (wr s 0 5 (wp (s 0 5 + 1))) k else wr s 0 5 (wp (s 0 5 + 1))) ν1 → ν1 17 = ν 17 → go 289 5 0 0 mX11_minutePasses Q X 13 [.ref 276, .int (iI (k : Nat))] [] (md σ ν1 μ) := by
    intro n
    induction n using Nat.strongRecOn with
    | _ n ih =>
      intro k ν1 hk hr1 h17
      have ih' := ih (n - 1)
      have t5 : ∀ r j, r ≠ 8 → (if (wp (s 0 5 + 1)).tmod (S 0 4) = 0 then dry_k (wr s 0 5 (wp (s 0 5 + 1))) k else wr s 0 5 (wp (s 0 5 + 1))) r j = wr s 0 5 (wp (s 0 5 + 1)) r j := fun r j hrj => by
        split
        · exact dry_k_o hrj
        · rfl
      have t50 := (t5 5 0 (by decide)).trans (wr_na (by decide))
      have t11 := (t5 11 0 (by decide)).trans (wr_na (by decide))
      refine go_iload_n (y := mX11_minutePasses) (pc := 13) dX11_minutePasses_13 rfl rfl ?_
      refine go_aload_n (y := mX11_minutePasses) (pc := 14) dX11_minutePasses_14 rfl rfl ?_
      refine go_mref (y := mX11_minutePasses) (pc := 15) dX11_minutePasses_15 fl_X11_7 rfl rfl (by decide) ?_
      refine go_bipush (y := mX11_minutePasses) (pc := 18) dX11_minutePasses_18 (by decide) ?_
      refine go_nial (y := mX11_minutePasses) (pc := 20) (k := 9) dX11_minutePasses_20 (by decide) rfl (by omega) (fun r20 => ?_)
      refine go_top (b := s 5 0) ((rs9 hr1).trans t50) (fun t20 => ?_)
      refine go_icmp_ge (y := mX11_minutePasses) (pc := 21) (tgt := 73) dX11_minutePasses_21 (by decide) (by omega) (by omega) (fun h21 => ?_) (fun h21 => ?_)
      · skip
        refine go_iconst (y := mX11_minutePasses) (pc := 73) dX11_minutePasses_73 ?_
        refine go_istore_n (y := mX11_minutePasses) (pc := 74) dX11_minutePasses_74 rfl (by decide) ?_
        have e : k = (s 5 0).toNat := by omega
        subst e
        refine loop2 (S 0 0).toNat 0 ν1 (by omega) ?_ ?_
        · show rel S (pm1 S s) ν1
          unfold pm1
          by_cases g : (wp (s 0 5 + 1)).tmod (S 0 4) = 0
          · rw [if_pos g] at hr1
            rw [if_pos ⟨by omega, g⟩]
            show rel S (dry_k _ _) ν1
            rw [wr_na (by decide)]
            exact hr1
          · rw [if_neg g] at hr1
            rw [if_neg (fun w => g w.2)]
            exact hr1
        · show iI (ν1 17) = iI (ν 17 + 0)
          rw [h17, Int.add_zero]
      · skip
        have e7 := (t5 7 k (by decide)).trans (wr_na (by decide))
        refine go_aload_n (y := mX11_minutePasses) (pc := 24) dX11_minutePasses_24 rfl rfl ?_
        refine go_iload_n (y := mX11_minutePasses) (pc := 25) dX11_minutePasses_25 rfl rfl ?_
        refine go_callV1 (y := mX11_minutePasses) (pc := 26) (y' := mX11_isOpen) (kc2 := 0) (ks2 := 0) dX11_minutePasses_26 ml_X11_141 ok_X11_isOpen (show shp 276 = _ from rfl) ⟨_, _, rfl⟩ (by decide) rfl (by decide) (Nat.le_of_ble_eq_true rfl) rfl (m_isOpen (q := k) (by rw [t50]; omega) (by rw [t50]; omega) hr1 (fun v26 e26 b26 => ?_))
        refine go_if_eq (y := mX11_minutePasses) (pc := 29) (tgt := 67) dX11_minutePasses_29 (by decide) (by omega) (fun h29 => ?_) (fun h29 => ?_)
        · skip
          refine go_iinc (y := mX11_minutePasses) (pc := 67) dX11_minutePasses_67 rfl (by decide) ?_
          refine go_goto (y := mX11_minutePasses) (pc := 70) (tgt := 13) dX11_minutePasses_70 (by decide) ?_
          refine ih' (by omega) (k + 1) ν1 (by omega) ?_ h17
          by_cases g : (wp (s 0 5 + 1)).tmod (S 0 4) = 0
          · rw [if_pos g] at hr1 ⊢
            rw [dry_k_n (by rw [wr_na (by decide)]; have := bI_0 e26 h29; rw [← e7]; exact this)]
            exact hr1
          · rw [if_neg g] at hr1 ⊢
            exact hr1
        · skip
          refine go_aload_n (y := mX11_minutePasses) (pc := 32) dX11_minutePasses_32 rfl rfl ?_
          refine go_mref (y := mX11_minutePasses) (pc := 33) dX11_minutePasses_33 fl_X11_7 rfl rfl (by decide) ?_
          refine go_bipush (y := mX11_minutePasses) (pc := 36) dX11_minutePasses_36 (by decide) ?_
          refine go_nial (y := mX11_minutePasses) (pc := 38) (k := 7) dX11_minutePasses_38 (by decide) rfl (by omega) (fun r38 => ?_)
          refine go_top (b := wp (s 0 5 + 1)) ((rs7 hr1).trans ((t5 0 5 (by decide)).trans (wr_s _ _ _ _))) (fun t38 => ?_)
          have w38 := wp_rng (s 0 5 + 1)
          refine go_aload_n (y := mX11_minutePasses) (pc := 39) dX11_minutePasses_39 rfl rfl ?_
          refine go_mref (y := mX11_minutePasses) (pc := 40) dX11_minutePasses_40 fl_X11_7 rfl rfl (by decide) ?_
          refine go_iconst (y := mX11_minutePasses) (pc := 43) dX11_minutePasses_43 ?_
          refine go_nial (y := mX11_minutePasses) (pc := 44) (k := 4) dX11_minutePasses_44 (by decide) rfl (by omega) (fun r44 => ?_)
          refine go_top (b := S 0 4) (rs4 hr1) (fun t44 => ?_)
          refine go_irem (y := mX11_minutePasses) (pc := 45) dX11_minutePasses_45 (by omega) (by omega) (by omega) ?_
          refine go_top (b := (wp (s 0 5 + 1)).tmod (S 0 4)) (by have := Int.tmod_add_mul_tdiv (wp (s 0 5 + 1)) (S 0 4); rw [Int.mul_comm] at this; omega) (fun t45 => ?_)
          refine go_if_ne (y := mX11_minutePasses) (pc := 46) (tgt := 67) dX11_minutePasses_46 (by decide) (by have h1 := Int.tmod_lt_of_pos (wp (s 0 5 + 1)) (show 0 < S 0 4 by omega); have h2 := Int.lt_tmod_of_pos (wp (s 0 5 + 1)) (show 0 < S 0 4 by omega); constructor <;> omega) (fun h46 => ?_) (fun h46 => ?_)
          · skip
            refine go_iinc (y := mX11_minutePasses) (pc := 67) dX11_minutePasses_67 rfl (by decide) ?_
            refine go_goto (y := mX11_minutePasses) (pc := 70) (tgt := 13) dX11_minutePasses_70 (by decide) ?_
            refine ih' (by omega) (k + 1) ν1 (by omega) ?_ h17
            rw [if_neg h46] at hr1 ⊢
            exact hr1
          · skip
            have hc := hC.2.2.1 k (by omega)
            rw [if_pos h46] at hr1
            have l8 : ν1 (90 + 5 * k + 2) = s 8 k := (rqL hr1 (by rw [dry_k_o (by decide), wr_na (by decide)]; omega)).trans (dry_k_8.trans (wr_na (by decide)))
            refine go_aload_n (y := mX11_minutePasses) (pc := 49) dX11_minutePasses_49 rfl rfl ?_
            refine go_iload_n (y := mX11_minutePasses) (pc := 50) dX11_minutePasses_50 rfl rfl ?_
            refine go_iconst (y := mX11_minutePasses) (pc := 51) dX11_minutePasses_51 ?_
            refine go_iconst (y := mX11_minutePasses) (pc := 52) dX11_minutePasses_52 ?_
            refine go_aload_n (y := mX11_minutePasses) (pc := 53) dX11_minutePasses_53 rfl rfl ?_
            refine go_iload_n (y := mX11_minutePasses) (pc := 54) dX11_minutePasses_54 rfl rfl ?_
            refine go_iconst (y := mX11_minutePasses) (pc := 55) dX11_minutePasses_55 ?_
            refine go_callV2 (y := mX11_minutePasses) (pc := 56) (y' := mX11_ofM) (kc2 := 0) (ks2 := 0) dX11_minutePasses_56 ml_X11_90 ok_X11_ofM (show shp 276 = _ from rfl) ⟨_, _, rfl⟩ (by decide) ⟨rfl, rfl⟩ (by decide) (Nat.le_of_ble_eq_true rfl) rfl (m_ofM (q := k) (w := 2) (by omega) (by decide) (fun v56 e56 r56 => ?_))
            refine go_top (b := s 8 k) (e56.trans l8) (fun t56 => ?_)
            refine go_iconst (y := mX11_minutePasses) (pc := 59) dX11_minutePasses_59 ?_
            refine go_isub (y := mX11_minutePasses) (pc := 60) dX11_minutePasses_60 ?_
            refine go_mmax (y := mX11_minutePasses) (pc := 61) dX11_minutePasses_61 ml_X11_122 (by decide) (Nat.le_of_ble_eq_true rfl) (by omega) (by omega) ?_
            refine go_callV3 (y := mX11_minutePasses) (pc := 64) (y' := mX11_putM) (kc2 := 0) (ks2 := 0) dX11_minutePasses_64 ml_X11_132 ok_X11_putM (show shp 276 = _ from rfl) ⟨_, _, rfl⟩ (by decide) ⟨rfl, rfl, rfl⟩ (by decide) (Nat.le_of_ble_eq_true rfl) rfl (m_putM (q := k) (w := 2) (by omega) (by decide) (by omega) ?_)
            refine go_iinc (y := mX11_minutePasses) (pc := 67) dX11_minutePasses_67 rfl (by decide) ?_
            refine go_goto (y := mX11_minutePasses) (pc := 70) (tgt := 13) dX11_minutePasses_70 (by decide) ?_
            refine ih' (by omega) (k + 1) _ (by omega) ?_ (by rw [wv_n (by omega)]; exact h17)
            rw [if_pos h46, dry_k_s (by rw [wr_na (by decide)]; have := bI_1 e26 h29; rw [← e7]; exact this) (by rw [wr_na (by decide)]; omega), wr_na (by decide : (8 : Nat) ≠ 0)]
            exact rel_lath (by rw [dry_k_o (by decide), wr_na (by decide)]; omega) hr1 n12 c4 (by rw [dry_k_o (by decide), wr_na (by decide)]; exact q16) (by rw [dry_k_o (by decide), wr_na (by decide)]; exact r12)
  refine go_aload_n (y := mX11_minutePasses) (pc := 0) dX11_minutePasses_0 rfl rfl ?_
  refine go_mref (y := mX11_minutePasses) (pc := 1) dX11_minutePasses_1 fl_X11_7 rfl rfl (by decide) ?_
  refine go_bipush (y := mX11_minutePasses) (pc := 4) dX11_minutePasses_4 (by decide) ?_
  refine go_dup2 (y := mX11_minutePasses) (pc := 6) dX11_minutePasses_6 rfl rfl ?_
  refine go_nial (y := mX11_minutePasses) (pc := 7) (k := 7) dX11_minutePasses_7 (by decide) rfl (by omega) (fun r7 => ?_)
  refine go_top (b := s 0 5) (rs7 hr) (fun t7 => ?_)
  refine go_iconst (y := mX11_minutePasses) (pc := 8) dX11_minutePasses_8 ?_
  refine go_iadd (y := mX11_minutePasses) (pc := 9) dX11_minutePasses_9 ?_
  refine go_niasW (y := mX11_minutePasses) (pc := 10) (k := 7) dX11_minutePasses_10 (by decide) rfl (by omega)  ?_
  refine go_iconst (y := mX11_minutePasses) (pc := 11) dX11_minutePasses_11 ?_
  refine go_istore_n (y := mX11_minutePasses) (pc := 12) dX11_minutePasses_12 rfl (by decide) ?_
  refine loop1 (s 5 0).toNat 0 _ (by omega) ?_ (by rw [wv_n (by omega)])
  rw [dry_0]
  split <;> exact x0
set_option maxRecDepth 8000 in
set_option maxHeartbeats 4000000 in
theorem m_votes {m q : Nat} (hm : (m : Int) < S 0 7) (hq : (q : Int) < s 5 0) (hS : wfS S) (hC : wfC S s) (hr : rel S s ν) {Q : Option Value → Mem → Prop} {X : String → Mem → Prop} (K : ∀ v, v = bI (vt s m q ≠ 0) → v = 0 ∨ v = 1 → Q (some (.int (iI v))) (md σ ν μ)) : mt 289 1 0 0 mX11_votes [.ref 276, .int (iI (m : Nat)), .int (iI (q : Nat))] Q X (md σ ν μ) := by
  show go 289 1 0 0 mX11_votes Q X 0 [.ref 276, .int (iI (m : Nat)), .int (iI (q : Nat))] [] _
  obtain ⟨n1, n12, c1, c4⟩ := wf_n hS
  obtain ⟨q0, q16, r0, r12⟩ := wf_r hS hC
  have hm3 := hC.2.1 m hm
  have J22 : vt s m q = 0 → go 289 1 0 0 mX11_votes Q X 22 [.ref 276, .int (iI (m : Nat)), .int (iI (q : Nat))] [] (md σ ν μ) := by
    intro g
    refine go_iconst (y := mX11_votes) (pc := 22) dX11_votes_22 ?_
    refine go_zreturn (y := mX11_votes) (pc := 23) dX11_votes_23 rfl (by omega) ?_
    exact K _ (bI_f (fun w => w g)).symm (by omega)
  refine go_aload_n (y := mX11_votes) (pc := 0) dX11_votes_0 rfl rfl ?_
  refine go_iload_n (y := mX11_votes) (pc := 1) dX11_votes_1 rfl rfl ?_
  refine go_iconst (y := mX11_votes) (pc := 2) dX11_votes_2 ?_
  refine go_callV2 (y := mX11_votes) (pc := 3) (y' := mX11_of) (kc2 := 0) (ks2 := 0) dX11_votes_3 ml_X11_100 ok_X11_of (show shp 276 = _ from rfl) ⟨_, _, rfl⟩ (by decide) ⟨rfl, rfl⟩ (by decide) (Nat.le_of_ble_eq_true rfl) rfl (m_of (m := m) (w := 4) (by omega) (by decide) (fun v3 e3 r3 => ?_))
  refine go_top (b := s 3 m) (e3.trans (rlR hr hm)) (fun t3 => ?_)
  refine go_if_le (y := mX11_votes) (pc := 6) (tgt := 22) dX11_votes_6 (by decide) (by omega) (fun h6 => ?_) (fun h6 => ?_)
  · skip
    exact J22 (by unfold vt; rw [if_pos (by omega)])
  · skip
    refine go_aload_n (y := mX11_votes) (pc := 9) dX11_votes_9 rfl rfl ?_
    refine go_iload_n (y := mX11_votes) (pc := 10) dX11_votes_10 rfl rfl ?_
    refine go_iload_n (y := mX11_votes) (pc := 11) dX11_votes_11 rfl rfl ?_
    refine go_callV2 (y := mX11_votes) (pc := 12) (y' := mX11_leans) (kc2 := 0) (ks2 := 0) dX11_votes_12 ml_X11_114 ok_X11_leans (show shp 276 = _ from rfl) ⟨_, _, rfl⟩ (by decide) ⟨rfl, rfl⟩ (by decide) (Nat.le_of_ble_eq_true rfl) rfl (m_leans (m := m) (q := q) (by omega) (by omega) (fun v12 e12 r12 => ?_))
    refine go_top (b := ln s m q) (e12.trans (rqN hr hq hm)) (fun t12 => ?_)
    refine go_if_eq (y := mX11_votes) (pc := 15) (tgt := 22) dX11_votes_15 (by decide) (by omega) (fun h15 => ?_) (fun h15 => ?_)
    · skip
      exact J22 (by unfold vt; rw [if_pos (by omega)])
    · skip
      refine go_iconst (y := mX11_votes) (pc := 18) dX11_votes_18 ?_
      refine go_goto (y := mX11_votes) (pc := 19) (tgt := 23) dX11_votes_19 (by decide) ?_
      refine go_zreturn (y := mX11_votes) (pc := 23) dX11_votes_23 rfl (by omega) ?_
      exact K _ (bI_t (by unfold vt; rw [if_neg (by omega)]; split <;> omega)).symm (by omega)
theorem vt_p {s : Mem} {m q : Nat} (h : vt s m q ≠ 0) : (0 < ln s m q → vt s m q = 1) ∧ (ln s m q ≤ 0 → vt s m q = -1) := by
  unfold vt at *
  by_cases g : s 3 m = 0 ∨ ln s m q = 0
  · rw [if_pos g] at h; exact absurd rfl h
  · rw [if_neg g]
    exact ⟨fun w => if_pos w, fun w => if_neg (by omega)⟩
set_option maxRecDepth 8000 in
set_option maxHeartbeats 4000000 in
theorem m_heft {q : Nat} {f : Int} (hf : f = 0 ∨ f = 1) (hq : (q : Int) < s 5 0) (hS : wfS S) (hC : wfC S s) (hr : rel S s ν) {Q : Option Value → Mem → Prop} {X : String → Mem → Prop} (K : ∀ v, v = wvt S s q (if f = 1 then 1 else -1) → 0 ≤ v ∧ v ≤ 108 → Q (some (.int (iI v))) (md σ ν μ)) : mt 289 2 0 0 mX11_heft [.ref 276, .int (iI (q : Nat)), .int (iI f)] Q X (md σ ν μ) := by
  show go 289 2 0 0 mX11_heft Q X 0 [.ref 276, .int (iI (q : Nat)), .int (iI f), .null, .null] [] _
  obtain ⟨n1, n12, c1, c4⟩ := wf_n hS
  obtain ⟨q0, q16, r0, r12⟩ := wf_r hS hC
  have hmem := wf_m hS
  generalize hd : (if f = 1 then (1 : Int) else -1) = d at K
  have hb : ∀ k : Nat, (k : Int) ≤ S 0 7 → 0 ≤ smf (fun m => if vt s m q = d then S 2 m else 0) k ∧ smf (fun m => if vt s m q = d then S 2 m else 0) k ≤ k * 9 := fun k hk => smf_bd (b := 9) (fun i hi => by have := hmem i (by omega); split <;> omega)
  have loop : ∀ (n k : Nat), (k : Int) + n = S 0 7 → go 289 2 0 0 mX11_heft Q X 5 [.ref 276, .int (iI (q : Nat)), .int (iI f), .int (iI (smf (fun m => if vt s m q = d then S 2 m else 0) k)), .int (iI (k : Nat))] [] (md σ ν μ) := by
    intro n
    induction n using Nat.strongRecOn with
    | _ n ih =>
      intro k hk
      have ih' := ih (n - 1)
      have J56 : ∀ w : Int, w = smf (fun m => if vt s m q = d then S 2 m else 0) (k + 1) → (k : Int) < S 0 7 → go 289 2 0 0 mX11_heft Q X 56 [.ref 276, .int (iI (q : Nat)), .int (iI f), .int (iI w), .int (iI (k : Nat))] [] (md σ ν μ) := by
        intro w hw hk7
        refine go_iinc (y := mX11_heft) (pc := 56) dX11_heft_56 rfl (by decide) ?_
        refine go_goto (y := mX11_heft) (pc := 59) (tgt := 5) dX11_heft_59 (by decide) ?_
        have h := ih' (by omega) (k + 1) (by omega)
        rw [← hw] at h
        exact h
      have J42 : ∀ x : Int, (x = 0 ∨ x = 1) → (k : Int) < S 0 7 → vt s k q ≠ 0 → (x = 1 ↔ 0 < ln s k q) → go 289 2 0 0 mX11_heft Q X 42 [.ref 276, .int (iI (q : Nat)), .int (iI f), .int (iI (smf (fun m => if vt s m q = d then S 2 m else 0) k)), .int (iI (k : Nat))] [.int (iI x)] (md σ ν μ) := by
        intro x gx hk7 hv hx
        have hvp := vt_p hv
        refine go_iload_n (y := mX11_heft) (pc := 42) dX11_heft_42 rfl rfl ?_
        refine go_icmp_ne (y := mX11_heft) (pc := 43) (tgt := 56) dX11_heft_43 (by decide) (by omega) (by omega) (fun h43 => ?_) (fun h43 => ?_)
        · skip
          refine J56 _ ?_ hk7
          show _ = smf _ k + (if vt s k q = d then S 2 k else 0)
          rw [if_neg, Int.add_zero]
          rw [← hd]
          rcases hf with e | e <;> rcases gx with e2 | e2 <;> subst e <;> subst e2 <;> first | exact absurd rfl h43 | (split <;> omega)
        · skip
          refine go_iload_n (y := mX11_heft) (pc := 46) dX11_heft_46 rfl rfl ?_
          refine go_aload_n (y := mX11_heft) (pc := 47) dX11_heft_47 rfl rfl ?_
          refine go_iload (y := mX11_heft) (pc := 48) dX11_heft_48 rfl ?_
          refine go_iconst (y := mX11_heft) (pc := 50) dX11_heft_50 ?_
          refine go_callV2 (y := mX11_heft) (pc := 51) (y' := mX11_of) (kc2 := 0) (ks2 := 0) dX11_heft_51 ml_X11_100 ok_X11_of (show shp 276 = _ from rfl) ⟨_, _, rfl⟩ (by decide) ⟨rfl, rfl⟩ (by decide) (Nat.le_of_ble_eq_true rfl) rfl (m_of (m := k) (w := 1) (by omega) (by decide) (fun v51 e51 r51 => ?_))
          refine go_top (b := S 2 k) (e51.trans (rlW hr (by omega))) (fun t51 => ?_)
          refine go_iadd (y := mX11_heft) (pc := 54) dX11_heft_54 ?_
          refine go_istore_n (y := mX11_heft) (pc := 55) dX11_heft_55 rfl (by decide) ?_
          refine J56 _ ?_ hk7
          show _ = smf _ k + (if vt s k q = d then S 2 k else 0)
          rw [if_pos]
          rw [← hd]
          rcases hf with e | e <;> rcases gx with e2 | e2 <;> subst e <;> subst e2 <;> first | exact absurd h43 (by decide) | (split <;> omega)
      refine go_iload (y := mX11_heft) (pc := 5) dX11_heft_5 rfl ?_
      refine go_aload_n (y := mX11_heft) (pc := 7) dX11_heft_7 rfl rfl ?_
      refine go_mref (y := mX11_heft) (pc := 8) dX11_heft_8 fl_X11_7 rfl rfl (by decide) ?_
      refine go_bipush (y := mX11_heft) (pc := 11) dX11_heft_11 (by decide) ?_
      refine go_nial (y := mX11_heft) (pc := 13) (k := 8) dX11_heft_13 (by decide) rfl (by omega) (fun r13 => ?_)
      refine go_top (b := S 0 7) (rs8 hr) (fun t13 => ?_)
      refine go_icmp_ge (y := mX11_heft) (pc := 14) (tgt := 62) dX11_heft_14 (by decide) (by omega) (by omega) (fun h14 => ?_) (fun h14 => ?_)
      · skip
        refine go_iload_n (y := mX11_heft) (pc := 62) dX11_heft_62 rfl rfl ?_
        refine go_ireturn (y := mX11_heft) (pc := 63) dX11_heft_63 rfl ?_
        have e : k = (S 0 7).toNat := by omega
        subst e
        exact K _ rfl (by have := hb (S 0 7).toNat (by omega); omega)
      · skip
        refine go_aload_n (y := mX11_heft) (pc := 17) dX11_heft_17 rfl rfl ?_
        refine go_iload (y := mX11_heft) (pc := 18) dX11_heft_18 rfl ?_
        refine go_iload_n (y := mX11_heft) (pc := 20) dX11_heft_20 rfl rfl ?_
        refine go_callV2 (y := mX11_heft) (pc := 21) (y' := mX11_votes) (kc2 := 0) (ks2 := 0) dX11_heft_21 ml_X11_150 ok_X11_votes (show shp 276 = _ from rfl) ⟨_, _, rfl⟩ (by decide) ⟨rfl, rfl⟩ (by decide) (Nat.le_of_ble_eq_true rfl) rfl (m_votes (m := k) (q := q) (by omega) (by omega) hS hC hr (fun v21 e21 b21 => ?_))
        refine go_if_eq (y := mX11_heft) (pc := 24) (tgt := 56) dX11_heft_24 (by decide) (by omega) (fun h24 => ?_) (fun h24 => ?_)
        · skip
          refine J56 _ ?_ (by omega)
          show _ = smf _ k + (if vt s k q = d then S 2 k else 0)
          have g : vt s k q = 0 := by
            have := bI_0 e21 h24
            by_cases w : vt s k q = 0
            · exact w
            · exact absurd w this
          rw [g, if_neg, Int.add_zero]
          rw [← hd]; split <;> omega
        · skip
          have g := bI_1 e21 h24
          refine go_aload_n (y := mX11_heft) (pc := 27) dX11_heft_27 rfl rfl ?_
          refine go_iload (y := mX11_heft) (pc := 28) dX11_heft_28 rfl ?_
          refine go_iload_n (y := mX11_heft) (pc := 30) dX11_heft_30 rfl rfl ?_
          refine go_callV2 (y := mX11_heft) (pc := 31) (y' := mX11_leans) (kc2 := 0) (ks2 := 0) dX11_heft_31 ml_X11_114 ok_X11_leans (show shp 276 = _ from rfl) ⟨_, _, rfl⟩ (by decide) ⟨rfl, rfl⟩ (by decide) (Nat.le_of_ble_eq_true rfl) rfl (m_leans (m := k) (q := q) (by omega) (by omega) (fun v31 e31 r31 => ?_))
          refine go_top (b := ln s k q) (e31.trans (rqN hr hq (by omega))) (fun t31 => ?_)
          refine go_if_le (y := mX11_heft) (pc := 34) (tgt := 41) dX11_heft_34 (by decide) (by omega) (fun h34 => ?_) (fun h34 => ?_)
          · skip
            refine go_iconst (y := mX11_heft) (pc := 41) dX11_heft_41 ?_
            exact J42 0 (by omega) (by omega) g (by omega)
          · skip
            refine go_iconst (y := mX11_heft) (pc := 37) dX11_heft_37 ?_
            refine go_goto (y := mX11_heft) (pc := 38) (tgt := 42) dX11_heft_38 (by decide) ?_
            exact J42 1 (by omega) (by omega) g (by omega)
  refine go_iconst (y := mX11_heft) (pc := 0) dX11_heft_0 ?_
  refine go_istore_n (y := mX11_heft) (pc := 1) dX11_heft_1 rfl (by decide) ?_
  refine go_iconst (y := mX11_heft) (pc := 2) dX11_heft_2 ?_
  refine go_istore (y := mX11_heft) (pc := 3) dX11_heft_3 (by decide) ?_
  exact loop (S 0 7).toNat 0 (by omega)
set_option maxRecDepth 8000 in
set_option maxHeartbeats 4000000 in
theorem m_voters {q : Nat} (hq : (q : Int) < s 5 0) (hS : wfS S) (hC : wfC S s) (hr : rel S s ν) {Q : Option Value → Mem → Prop} {X : String → Mem → Prop} (K : ∀ v, v = nvt S s q → 0 ≤ v ∧ v ≤ 12 → Q (some (.int (iI v))) (md σ ν μ)) : mt 289 2 0 0 mX11_voters [.ref 276, .int (iI (q : Nat))] Q X (md σ ν μ) := by
  show go 289 2 0 0 mX11_voters Q X 0 [.ref 276, .int (iI (q : Nat)), .null, .null] [] _
  obtain ⟨n1, n12, c1, c4⟩ := wf_n hS
  have hb : ∀ k, 0 ≤ smf (fun m => if vt s m q = 0 then 0 else 1) k ∧ smf (fun m => if vt s m q = 0 then 0 else 1) k ≤ k := smf_b01 (fun k => by split <;> omega)
  have loop : ∀ (n k : Nat), (k : Int) + n = S 0 7 → go 289 2 0 0 mX11_voters Q X 4 [.ref 276, .int (iI (q : Nat)), .int (iI (smf (fun m => if vt s m q = 0 then 0 else 1) k)), .int (iI (k : Nat))] [] (md σ ν μ) := by
    intro n
    induction n using Nat.strongRecOn with
    | _ n ih =>
      intro k hk
      have ih' := ih (n - 1)
      refine go_iload_n (y := mX11_voters) (pc := 4) dX11_voters_4 rfl rfl ?_
      refine go_aload_n (y := mX11_voters) (pc := 5) dX11_voters_5 rfl rfl ?_
      refine go_mref (y := mX11_voters) (pc := 6) dX11_voters_6 fl_X11_7 rfl rfl (by decide) ?_
      refine go_bipush (y := mX11_voters) (pc := 9) dX11_voters_9 (by decide) ?_
      refine go_nial (y := mX11_voters) (pc := 11) (k := 8) dX11_voters_11 (by decide) rfl (by omega) (fun r11 => ?_)
      refine go_top (b := S 0 7) (rs8 hr) (fun t11 => ?_)
      refine go_icmp_ge (y := mX11_voters) (pc := 12) (tgt := 33) dX11_voters_12 (by decide) (by omega) (by omega) (fun h12 => ?_) (fun h12 => ?_)
      · skip
        refine go_iload_n (y := mX11_voters) (pc := 33) dX11_voters_33 rfl rfl ?_
        refine go_ireturn (y := mX11_voters) (pc := 34) dX11_voters_34 rfl ?_
        have e : k = (S 0 7).toNat := by omega
        subst e
        exact K _ rfl (by have := hb (S 0 7).toNat; omega)
      · skip
        refine go_aload_n (y := mX11_voters) (pc := 15) dX11_voters_15 rfl rfl ?_
        refine go_iload_n (y := mX11_voters) (pc := 16) dX11_voters_16 rfl rfl ?_
        refine go_iload_n (y := mX11_voters) (pc := 17) dX11_voters_17 rfl rfl ?_
        refine go_callV2 (y := mX11_voters) (pc := 18) (y' := mX11_votes) (kc2 := 0) (ks2 := 0) dX11_voters_18 ml_X11_150 ok_X11_votes (show shp 276 = _ from rfl) ⟨_, _, rfl⟩ (by decide) ⟨rfl, rfl⟩ (by decide) (Nat.le_of_ble_eq_true rfl) rfl (m_votes (m := k) (q := q) (by omega) (by omega) hS hC hr (fun v18 e18 b18 => ?_))
        refine go_if_eq (y := mX11_voters) (pc := 21) (tgt := 27) dX11_voters_21 (by decide) (by omega) (fun h21 => ?_) (fun h21 => ?_)
        · skip
          refine go_iinc (y := mX11_voters) (pc := 27) dX11_voters_27 rfl (by decide) ?_
          refine go_goto (y := mX11_voters) (pc := 30) (tgt := 4) dX11_voters_30 (by decide) ?_
          have h := ih' (by omega) (k + 1) (by omega)
          have g : vt s k q = 0 := by
            have := bI_0 e18 h21
            by_cases w : vt s k q = 0
            · exact w
            · exact absurd w this
          rw [smf, if_pos g] at h
          simpa using h
        · skip
          refine go_iinc (y := mX11_voters) (pc := 24) dX11_voters_24 rfl (by decide) ?_
          refine go_iinc (y := mX11_voters) (pc := 27) dX11_voters_27 rfl (by decide) ?_
          refine go_goto (y := mX11_voters) (pc := 30) (tgt := 4) dX11_voters_30 (by decide) ?_
          have h := ih' (by omega) (k + 1) (by omega)
          rw [smf, if_neg (bI_1 e18 h21)] at h
          exact h
  refine go_iconst (y := mX11_voters) (pc := 0) dX11_voters_0 ?_
  refine go_istore_n (y := mX11_voters) (pc := 1) dX11_voters_1 rfl (by decide) ?_
  refine go_iconst (y := mX11_voters) (pc := 2) dX11_voters_2 ?_
  refine go_istore_n (y := mX11_voters) (pc := 3) dX11_voters_3 rfl (by decide) ?_
  exact loop (S 0 7).toNat 0 (by omega)
set_option maxRecDepth 8000 in
set_option maxHeartbeats 4000000 in
theorem m_passes {q : Nat} (hq : (q : Int) < s 5 0) (hS : wfS S) (hC : wfC S s) (hr : rel S s ν) {Q : Option Value → Mem → Prop} {X : String → Mem → Prop} (K : ∀ v, v = bI (0 < mgn S s q) → v = 0 ∨ v = 1 → Q (some (.int (iI v))) (md σ ν μ)) : mt 289 3 0 0 mX11_passes [.ref 276, .int (iI (q : Nat))] Q X (md σ ν μ) := by
  show go 289 3 0 0 mX11_passes Q X 0 [.ref 276, .int (iI (q : Nat))] [] _
  refine go_aload_n (y := mX11_passes) (pc := 0) dX11_passes_0 rfl rfl ?_
  refine go_iload_n (y := mX11_passes) (pc := 1) dX11_passes_1 rfl rfl ?_
  refine go_iconst (y := mX11_passes) (pc := 2) dX11_passes_2 ?_
  refine go_callV2 (y := mX11_passes) (pc := 3) (y' := mX11_heft) (kc2 := 0) (ks2 := 0) dX11_passes_3 ml_X11_154 ok_X11_heft (show shp 276 = _ from rfl) ⟨_, _, rfl⟩ (by decide) ⟨rfl, rfl⟩ (by decide) (Nat.le_of_ble_eq_true rfl) rfl (m_heft (q := q) (by omega) (by omega) hS hC hr (fun v3 e3 b3 => ?_))
  refine go_aload_n (y := mX11_passes) (pc := 6) dX11_passes_6 rfl rfl ?_
  refine go_iload_n (y := mX11_passes) (pc := 7) dX11_passes_7 rfl rfl ?_
  refine go_iconst (y := mX11_passes) (pc := 8) dX11_passes_8 ?_
  refine go_callV2 (y := mX11_passes) (pc := 9) (y' := mX11_heft) (kc2 := 0) (ks2 := 0) dX11_passes_9 ml_X11_154 ok_X11_heft (show shp 276 = _ from rfl) ⟨_, _, rfl⟩ (by decide) ⟨rfl, rfl⟩ (by decide) (Nat.le_of_ble_eq_true rfl) rfl (m_heft (q := q) (by omega) (by omega) hS hC hr (fun v9 e9 b9 => ?_))
  refine go_icmp_le (y := mX11_passes) (pc := 12) (tgt := 19) dX11_passes_12 (by decide) (by omega) (by omega) (fun h12 => ?_) (fun h12 => ?_)
  · skip
    refine go_iconst (y := mX11_passes) (pc := 19) dX11_passes_19 ?_
    refine go_zreturn (y := mX11_passes) (pc := 20) dX11_passes_20 rfl (by omega) ?_
    exact K _ (bI_f (by unfold mgn; rw [if_pos rfl] at e3; rw [if_neg (by decide)] at e9; omega)).symm (by omega)
  · skip
    refine go_iconst (y := mX11_passes) (pc := 15) dX11_passes_15 ?_
    refine go_goto (y := mX11_passes) (pc := 16) (tgt := 20) dX11_passes_16 (by decide) ?_
    refine go_zreturn (y := mX11_passes) (pc := 20) dX11_passes_20 rfl (by omega) ?_
    exact K _ (bI_t (by unfold mgn; rw [if_pos rfl] at e3; rw [if_neg (by decide)] at e9; omega)).symm (by omega)
set_option maxRecDepth 8000 in
set_option maxHeartbeats 4000000 in
theorem m_prevents {q : Nat} (hq : (q : Int) < s 5 0) (hS : wfS S) (hC : wfC S s) (hr : rel S s ν) {Q : Option Value → Mem → Prop} {X : String → Mem → Prop} (K : ∀ v, v = obs S s q → 0 ≤ v ∧ v ≤ 4 → Q (some (.int (iI v))) (md σ ν μ)) : mt 289 3 0 0 mX11_prevents [.ref 276, .int (iI (q : Nat))] Q X (md σ ν μ) := by
  show go 289 3 0 0 mX11_prevents Q X 0 [.ref 276, .int (iI (q : Nat))] [] _
  obtain ⟨n1, n12, c1, c4⟩ := wf_n hS
  obtain ⟨q0, q16, r0, r12⟩ := wf_r hS hC
  have l5 := hS.2.2.2.2.2.2.2.2.2.2.1
  have l9 := hS.2.2.2.2.2.2.2.2.2.2.2.1
  have u6 := hS.2.2.2.2.2.2.2.2.2.2.2.2.1
  have u7 := hS.2.2.2.2.2.2.2.2.2.2.2.2.2.1
  unfold obs at K
  refine go_aload_n (y := mX11_prevents) (pc := 0) dX11_prevents_0 rfl rfl ?_
  refine go_iload_n (y := mX11_prevents) (pc := 1) dX11_prevents_1 rfl rfl ?_
  refine go_callV1 (y := mX11_prevents) (pc := 2) (y' := mX11_isOpen) (kc2 := 0) (ks2 := 0) dX11_prevents_2 ml_X11_141 ok_X11_isOpen (show shp 276 = _ from rfl) ⟨_, _, rfl⟩ (by decide) rfl (by decide) (Nat.le_of_ble_eq_true rfl) rfl (m_isOpen (q := q) (by omega) (by omega) hr (fun v2 e2 b2 => ?_))
  refine go_if_ne (y := mX11_prevents) (pc := 5) (tgt := 10) dX11_prevents_5 (by decide) (by omega) (fun h5 => ?_) (fun h5 => ?_)
  · skip
    rw [if_neg (fun w => w (bI_1 e2 h5))] at K
    refine go_aload_n (y := mX11_prevents) (pc := 10) dX11_prevents_10 rfl rfl ?_
    refine go_iload_n (y := mX11_prevents) (pc := 11) dX11_prevents_11 rfl rfl ?_
    refine go_iconst (y := mX11_prevents) (pc := 12) dX11_prevents_12 ?_
    refine go_callV2 (y := mX11_prevents) (pc := 13) (y' := mX11_ofM) (kc2 := 0) (ks2 := 0) dX11_prevents_13 ml_X11_90 ok_X11_ofM (show shp 276 = _ from rfl) ⟨_, _, rfl⟩ (by decide) ⟨rfl, rfl⟩ (by decide) (Nat.le_of_ble_eq_true rfl) rfl (m_ofM (q := q) (w := 2) (by omega) (by decide) (fun v13 e13 r13 => ?_))
    refine go_top (b := s 8 q) (e13.trans (rqL hr hq)) (fun t13 => ?_)
    refine go_aload_n (y := mX11_prevents) (pc := 16) dX11_prevents_16 rfl rfl ?_
    refine go_mref (y := mX11_prevents) (pc := 17) dX11_prevents_17 fl_X11_7 rfl rfl (by decide) ?_
    refine go_iconst (y := mX11_prevents) (pc := 20) dX11_prevents_20 ?_
    refine go_nial (y := mX11_prevents) (pc := 21) (k := 5) dX11_prevents_21 (by decide) rfl (by omega) (fun r21 => ?_)
    refine go_top (b := S 0 5) (rs5 hr) (fun t21 => ?_)
    refine go_icmp_ge (y := mX11_prevents) (pc := 22) (tgt := 27) dX11_prevents_22 (by decide) (by omega) (by omega) (fun h22 => ?_) (fun h22 => ?_)
    · skip
      rw [if_neg (by omega)] at K
      refine go_aload_n (y := mX11_prevents) (pc := 27) dX11_prevents_27 rfl rfl ?_
      refine go_iload_n (y := mX11_prevents) (pc := 28) dX11_prevents_28 rfl rfl ?_
      refine go_callV1 (y := mX11_prevents) (pc := 29) (y' := mX11_isSpokenAbout) (kc2 := 0) (ks2 := 0) dX11_prevents_29 ml_X11_158 ok_X11_isSpokenAbout (show shp 276 = _ from rfl) ⟨_, _, rfl⟩ (by decide) rfl (by decide) (Nat.le_of_ble_eq_true rfl) rfl (m_isSpokenAbout (by omega) hr hS hC (fun v29 e29 b29 => ?_))
      refine go_if_eq (y := mX11_prevents) (pc := 32) (tgt := 37) dX11_prevents_32 (by decide) (by omega) (fun h32 => ?_) (fun h32 => ?_)
      · skip
        rw [if_neg (bI_0 e29 h32)] at K
        refine go_aload_n (y := mX11_prevents) (pc := 37) dX11_prevents_37 rfl rfl ?_
        refine go_iload_n (y := mX11_prevents) (pc := 38) dX11_prevents_38 rfl rfl ?_
        refine go_callV1 (y := mX11_prevents) (pc := 39) (y' := mX11_voters) (kc2 := 0) (ks2 := 0) dX11_prevents_39 ml_X11_161 ok_X11_voters (show shp 276 = _ from rfl) ⟨_, _, rfl⟩ (by decide) rfl (by decide) (Nat.le_of_ble_eq_true rfl) rfl (m_voters (q := q) (by omega) hS hC hr (fun v39 e39 b39 => ?_))
        refine go_aload_n (y := mX11_prevents) (pc := 42) dX11_prevents_42 rfl rfl ?_
        refine go_mref (y := mX11_prevents) (pc := 43) dX11_prevents_43 fl_X11_7 rfl rfl (by decide) ?_
        refine go_bipush (y := mX11_prevents) (pc := 46) dX11_prevents_46 (by decide) ?_
        refine go_nial (y := mX11_prevents) (pc := 48) (k := 6) dX11_prevents_48 (by decide) rfl (by omega) (fun r48 => ?_)
        refine go_top (b := S 0 6) (rs6 hr) (fun t48 => ?_)
        refine go_icmp_ge (y := mX11_prevents) (pc := 49) (tgt := 56) dX11_prevents_49 (by decide) (by omega) (by omega) (fun h49 => ?_) (fun h49 => ?_)
        · skip
          rw [if_neg (by omega)] at K
          refine go_iconst (y := mX11_prevents) (pc := 56) dX11_prevents_56 ?_
          refine go_ireturn (y := mX11_prevents) (pc := 57) dX11_prevents_57 rfl ?_
          exact K _ rfl (by omega)
        · skip
          rw [if_pos (by omega)] at K
          refine go_iconst (y := mX11_prevents) (pc := 52) dX11_prevents_52 ?_
          refine go_goto (y := mX11_prevents) (pc := 53) (tgt := 57) dX11_prevents_53 (by decide) ?_
          refine go_ireturn (y := mX11_prevents) (pc := 57) dX11_prevents_57 rfl ?_
          exact K _ rfl (by omega)
      · skip
        rw [if_pos (bI_1 e29 h32)] at K
        refine go_iconst (y := mX11_prevents) (pc := 35) dX11_prevents_35 ?_
        refine go_ireturn (y := mX11_prevents) (pc := 36) dX11_prevents_36 rfl ?_
        exact K _ rfl (by omega)
    · skip
      rw [if_pos (by omega)] at K
      refine go_iconst (y := mX11_prevents) (pc := 25) dX11_prevents_25 ?_
      refine go_ireturn (y := mX11_prevents) (pc := 26) dX11_prevents_26 rfl ?_
      exact K _ rfl (by omega)
  · skip
    rw [if_pos (bI_0 e2 h5)] at K
    refine go_iconst (y := mX11_prevents) (pc := 8) dX11_prevents_8 ?_
    refine go_ireturn (y := mX11_prevents) (pc := 9) dX11_prevents_9 rfl ?_
    exact K _ rfl (by omega)
set_option maxRecDepth 8000 in
set_option maxHeartbeats 4000000 in
theorem m_isDecisive {m q : Nat} (hm : (m : Int) < S 0 7) (hq : (q : Int) < s 5 0) (hS : wfS S) (hC : wfC S s) (hr : rel S s ν) {Q : Option Value → Mem → Prop} {X : String → Mem → Prop} (K : ∀ v, v = bI ((decide (0 < mgn S s q - 2 * vt s m q * S 2 m) != decide (0 < mgn S s q)) = true) → v = 0 ∨ v = 1 → Q (some (.int (iI v))) (md σ ν μ)) : mt 289 3 0 0 mX11_isDecisive [.ref 276, .int (iI (m : Nat)), .int (iI (q : Nat))] Q X (md σ ν μ) := by
  show go 289 3 0 0 mX11_isDecisive Q X 0 [.ref 276, .int (iI (m : Nat)), .int (iI (q : Nat)), .null, .null] [] _
  obtain ⟨n1, n12, c1, c4⟩ := wf_n hS
  obtain ⟨q0, q16, r0, r12⟩ := wf_r hS hC
  have hw := wf_m hS m hm
  refine go_aload_n (y := mX11_isDecisive) (pc := 0) dX11_isDecisive_0 rfl rfl ?_
  refine go_iload_n (y := mX11_isDecisive) (pc := 1) dX11_isDecisive_1 rfl rfl ?_
  refine go_iload_n (y := mX11_isDecisive) (pc := 2) dX11_isDecisive_2 rfl rfl ?_
  refine go_callV2 (y := mX11_isDecisive) (pc := 3) (y' := mX11_votes) (kc2 := 0) (ks2 := 0) dX11_isDecisive_3 ml_X11_150 ok_X11_votes (show shp 276 = _ from rfl) ⟨_, _, rfl⟩ (by decide) ⟨rfl, rfl⟩ (by decide) (Nat.le_of_ble_eq_true rfl) rfl (m_votes (m := m) (q := q) (by omega) (by omega) hS hC hr (fun v3 e3 b3 => ?_))
  refine go_if_ne (y := mX11_isDecisive) (pc := 6) (tgt := 11) dX11_isDecisive_6 (by decide) (by omega) (fun h6 => ?_) (fun h6 => ?_)
  · skip
    have g := bI_1 e3 h6
    have hvp := vt_p g
    have J70 : ∀ (a b x y : Int), a = mgn S s q → b = mgn S s q - 2 * vt s m q * S 2 m → x = bI (0 < b) → y = bI (0 < a) → (x = 0 ∨ x = 1) → (y = 0 ∨ y = 1) → go 289 3 0 0 mX11_isDecisive Q X 70 [.ref 276, .int (iI (m : Nat)), .int (iI (q : Nat)), .int (iI a), .int (iI b)] [.int (iI x), .int (iI y)] (md σ ν μ) := by
      intro a b x y ha hb hx hy gx gy
      subst ha hb
      have hxy := bne_pos hx hy
      refine go_icmp_eq (y := mX11_isDecisive) (pc := 70) (tgt := 77) dX11_isDecisive_70 (by decide) (by omega) (by omega) (fun h70 => ?_) (fun h70 => ?_)
      · skip
        refine go_iconst (y := mX11_isDecisive) (pc := 77) dX11_isDecisive_77 ?_
        refine go_zreturn (y := mX11_isDecisive) (pc := 78) dX11_isDecisive_78 rfl (by omega) ?_
        exact K _ (bI_f (hxy.mp (by omega))).symm (by omega)
      · skip
        refine go_iconst (y := mX11_isDecisive) (pc := 73) dX11_isDecisive_73 ?_
        refine go_goto (y := mX11_isDecisive) (pc := 74) (tgt := 78) dX11_isDecisive_74 (by decide) ?_
        refine go_zreturn (y := mX11_isDecisive) (pc := 78) dX11_isDecisive_78 rfl (by omega) ?_
        refine K _ (bI_t ?_).symm (by omega)
        by_cases w9 : (decide (0 < mgn S s q - 2 * vt s m q * S 2 m) != decide (0 < mgn S s q)) = true
        · exact w9
        · exact absurd (hxy.mpr w9) (by omega)
    have J60 : ∀ (a b y : Int), a = mgn S s q → b = mgn S s q - 2 * vt s m q * S 2 m → (-300 ≤ b ∧ b ≤ 300) → y = bI (0 < a) → (y = 0 ∨ y = 1) → go 289 3 0 0 mX11_isDecisive Q X 60 [.ref 276, .int (iI (m : Nat)), .int (iI (q : Nat)), .int (iI a), .int (iI b)] [.int (iI y)] (md σ ν μ) := by
      intro a b y ha hb bb hy gy
      refine go_iload (y := mX11_isDecisive) (pc := 60) dX11_isDecisive_60 rfl ?_
      refine go_if_le (y := mX11_isDecisive) (pc := 62) (tgt := 69) dX11_isDecisive_62 (by decide) (by omega) (fun h62 => ?_) (fun h62 => ?_)
      · skip
        refine go_iconst (y := mX11_isDecisive) (pc := 69) dX11_isDecisive_69 ?_
        exact J70 a b 0 y ha hb (by rw [bI_f (by omega)]) hy (by omega) gy
      · skip
        refine go_iconst (y := mX11_isDecisive) (pc := 65) dX11_isDecisive_65 ?_
        refine go_goto (y := mX11_isDecisive) (pc := 66) (tgt := 70) dX11_isDecisive_66 (by decide) ?_
        exact J70 a b 1 y ha hb (by rw [bI_t (by omega)]) hy (by omega) gy
    have J41 : ∀ (a x : Int), a = mgn S s q → (-108 ≤ a ∧ a ≤ 108) → x = -2 * vt s m q → (x = 2 ∨ x = -2) → go 289 3 0 0 mX11_isDecisive Q X 41 [.ref 276, .int (iI (m : Nat)), .int (iI (q : Nat)), .int (iI a), .null] [.int (iI x), .int (iI a)] (md σ ν μ) := by
      intro a x ha ba hx gx
      have hxb : -18 ≤ x * S 2 m ∧ x * S 2 m ≤ 18 := by rcases gx with h | h <;> rw [h] <;> omega
      have hb : a + x * S 2 m = mgn S s q - 2 * vt s m q * S 2 m := by rw [ha, hx, show -2 * vt s m q = -(2 * vt s m q) by omega, Int.neg_mul]; omega
      refine go_aload_n (y := mX11_isDecisive) (pc := 41) dX11_isDecisive_41 rfl rfl ?_
      refine go_iload_n (y := mX11_isDecisive) (pc := 42) dX11_isDecisive_42 rfl rfl ?_
      refine go_iconst (y := mX11_isDecisive) (pc := 43) dX11_isDecisive_43 ?_
      refine go_callV2 (y := mX11_isDecisive) (pc := 44) (y' := mX11_of) (kc2 := 0) (ks2 := 0) dX11_isDecisive_44 ml_X11_100 ok_X11_of (show shp 276 = _ from rfl) ⟨_, _, rfl⟩ (by decide) ⟨rfl, rfl⟩ (by decide) (Nat.le_of_ble_eq_true rfl) rfl (m_of (m := m) (w := 1) (by omega) (by decide) (fun v44 e44 r44 => ?_))
      refine go_top (b := S 2 m) (e44.trans (rlW hr hm)) (fun t44 => ?_)
      refine go_imul (y := mX11_isDecisive) (pc := 47) dX11_isDecisive_47 ?_
      refine go_iadd (y := mX11_isDecisive) (pc := 48) dX11_isDecisive_48 ?_
      refine go_istore (y := mX11_isDecisive) (pc := 49) dX11_isDecisive_49 (by decide) ?_
      refine go_iload_n (y := mX11_isDecisive) (pc := 51) dX11_isDecisive_51 rfl rfl ?_
      refine go_if_le (y := mX11_isDecisive) (pc := 52) (tgt := 59) dX11_isDecisive_52 (by decide) (by omega) (fun h52 => ?_) (fun h52 => ?_)
      · skip
        refine go_iconst (y := mX11_isDecisive) (pc := 59) dX11_isDecisive_59 ?_
        exact J60 a _ 0 ha hb (by omega) (by rw [bI_f (by omega)]) (by omega)
      · skip
        refine go_iconst (y := mX11_isDecisive) (pc := 55) dX11_isDecisive_55 ?_
        refine go_goto (y := mX11_isDecisive) (pc := 56) (tgt := 60) dX11_isDecisive_56 (by decide) ?_
        exact J60 a _ 1 ha hb (by omega) (by rw [bI_t (by omega)]) (by omega)

    refine go_aload_n (y := mX11_isDecisive) (pc := 11) dX11_isDecisive_11 rfl rfl ?_
    refine go_iload_n (y := mX11_isDecisive) (pc := 12) dX11_isDecisive_12 rfl rfl ?_
    refine go_iconst (y := mX11_isDecisive) (pc := 13) dX11_isDecisive_13 ?_
    refine go_callV2 (y := mX11_isDecisive) (pc := 14) (y' := mX11_heft) (kc2 := 0) (ks2 := 0) dX11_isDecisive_14 ml_X11_154 ok_X11_heft (show shp 276 = _ from rfl) ⟨_, _, rfl⟩ (by decide) ⟨rfl, rfl⟩ (by decide) (Nat.le_of_ble_eq_true rfl) rfl (m_heft (q := q) (by omega) (by omega) hS hC hr (fun v14 e14 b14 => ?_))
    refine go_aload_n (y := mX11_isDecisive) (pc := 17) dX11_isDecisive_17 rfl rfl ?_
    refine go_iload_n (y := mX11_isDecisive) (pc := 18) dX11_isDecisive_18 rfl rfl ?_
    refine go_iconst (y := mX11_isDecisive) (pc := 19) dX11_isDecisive_19 ?_
    refine go_callV2 (y := mX11_isDecisive) (pc := 20) (y' := mX11_heft) (kc2 := 0) (ks2 := 0) dX11_isDecisive_20 ml_X11_154 ok_X11_heft (show shp 276 = _ from rfl) ⟨_, _, rfl⟩ (by decide) ⟨rfl, rfl⟩ (by decide) (Nat.le_of_ble_eq_true rfl) rfl (m_heft (q := q) (by omega) (by omega) hS hC hr (fun v20 e20 b20 => ?_))
    refine go_isub (y := mX11_isDecisive) (pc := 23) dX11_isDecisive_23 ?_
    refine go_istore_n (y := mX11_isDecisive) (pc := 24) dX11_isDecisive_24 rfl (by decide) ?_
    refine go_iload_n (y := mX11_isDecisive) (pc := 25) dX11_isDecisive_25 rfl rfl ?_
    refine go_aload_n (y := mX11_isDecisive) (pc := 26) dX11_isDecisive_26 rfl rfl ?_
    refine go_iload_n (y := mX11_isDecisive) (pc := 27) dX11_isDecisive_27 rfl rfl ?_
    refine go_iload_n (y := mX11_isDecisive) (pc := 28) dX11_isDecisive_28 rfl rfl ?_
    refine go_callV2 (y := mX11_isDecisive) (pc := 29) (y' := mX11_leans) (kc2 := 0) (ks2 := 0) dX11_isDecisive_29 ml_X11_114 ok_X11_leans (show shp 276 = _ from rfl) ⟨_, _, rfl⟩ (by decide) ⟨rfl, rfl⟩ (by decide) (Nat.le_of_ble_eq_true rfl) rfl (m_leans (m := m) (q := q) (by omega) (by omega) (fun v29 e29 r29 => ?_))
    refine go_top (b := ln s m q) (e29.trans (rqN hr hq hm)) (fun t29 => ?_)
    refine go_if_le (y := mX11_isDecisive) (pc := 32) (tgt := 40) dX11_isDecisive_32 (by decide) (by omega) (fun h32 => ?_) (fun h32 => ?_)
    · skip
      refine go_iconst (y := mX11_isDecisive) (pc := 40) dX11_isDecisive_40 ?_
      rw [if_pos rfl] at e14
      rw [if_neg (by decide)] at e20
      exact J41 _ 2 (by unfold mgn; omega) (by omega) (by have := hvp.2 (by omega); omega) (by omega)
    · skip
      refine go_bipush (y := mX11_isDecisive) (pc := 35) dX11_isDecisive_35 (by decide) ?_
      refine go_goto (y := mX11_isDecisive) (pc := 37) (tgt := 41) dX11_isDecisive_37 (by decide) ?_
      rw [if_pos rfl] at e14
      rw [if_neg (by decide)] at e20
      exact J41 _ (-2) (by unfold mgn; omega) (by omega) (by have := hvp.1 (by omega); omega) (by omega)
  · skip
    refine go_iconst (y := mX11_isDecisive) (pc := 9) dX11_isDecisive_9 ?_
    refine go_zreturn (y := mX11_isDecisive) (pc := 10) dX11_isDecisive_10 rfl (by omega) ?_
    have g : vt s m q = 0 := by
      have := bI_0 e3 h6
      by_cases w : vt s m q = 0
      · exact w
      · exact absurd w this
    exact K _ (bI_f (by rw [g]; simp)).symm (by omega)
end MReads4
